/-! the law: its world, its calls -/
abbrev LW (ad ro bd : Nat → Nat) (c : Nat → ClassId) (Z : ZT) (L : LT) (ZM : ZT) (LM : LT) (o : Nat) (out : Nat → Int64) : va_W := wd ad ro c Z L ++ (wm bd c ZM LM ++ [oC c o out])
abbrev kA : List Nat := [0, 1, 2, 3, 4, 5, 6, 7, 8, 9, 10, 11, 12, 13, 14, 15, 16, 17, 18, 19, 20, 21, 22, 23, 24, 25, 26, 27, 28, 29, 30, 31, 32, 33, 34, 35, 36, 37, 38, 39, 40, 41, 42, 43, 44, 45, 46, 47, 48, 49, 50, 51, 52, 53, 54, 55, 56, 57, 58, 59, 60, 61, 62, 63, 64, 65, 66, 67, 68, 69, 70, 71, 72, 73, 74, 75, 76, 77, 78, 99]
abbrev kM : List Nat := [79, 80, 81, 82, 83, 84, 85, 86, 87, 88, 89, 90, 91, 92, 93, 94, 95, 96, 97, 98]
abbrev kMO : List Nat := [79, 80, 81, 82, 83, 84, 85, 86, 87, 88, 89, 90, 91, 92, 93, 94, 95, 96, 97, 98, 99]
abbrev kAb : List Nat := [20, 21, 22, 23, 24, 25, 26, 27, 28, 29, 30, 31, 32, 33, 34, 35, 36, 37, 38, 39, 40, 41, 42, 43, 44, 45, 46, 47, 48, 49, 50, 51, 52, 53, 54, 55, 56, 57, 58, 59, 60, 61, 62, 63, 64, 65, 66, 67, 68, 69, 70, 71, 72, 73, 74, 75, 76, 77, 78, 79, 80, 81, 82, 83, 84, 85, 86, 87, 88, 89, 90, 91, 92, 93, 94, 95, 96, 97, 98, 0, 1, 2, 3, 4, 5, 6, 7, 8, 9, 10, 11, 12, 13, 14, 15, 16, 17, 18, 19, 99]
abbrev kDb : List Nat := [21, 22, 23, 24, 25, 26, 27, 28, 29, 30, 31, 32, 33, 34, 35, 36, 37, 38, 39, 40, 41, 42, 43, 44, 45, 46, 47, 48, 49, 50, 51, 52, 53, 54, 55, 56, 57, 58, 59, 60, 61, 62, 63, 64, 65, 66, 67, 68, 69, 70, 71, 72, 73, 74, 75, 76, 77, 78, 79, 80, 81, 82, 83, 84, 85, 86, 87, 88, 89, 90, 91, 92, 93, 94, 95, 96, 97, 98, 99, 0, 1, 2, 3, 4, 5, 6, 7, 8, 9, 10, 11, 12, 13, 14, 15, 16, 17, 18, 19, 20]
abbrev kMb : List Nat := [0, 1, 2, 3, 4, 5, 6, 7, 8, 9, 10, 11, 12, 13, 14, 15, 16, 17, 18, 19, 20, 21, 22, 23, 24, 25, 26, 27, 28, 29, 30, 31, 32, 33, 34, 35, 36, 37, 38, 39, 40, 41, 42, 43, 44, 45, 46, 47, 48, 49, 50, 51, 52, 53, 54, 55, 56, 57, 58, 59, 60, 61, 62, 63, 64, 65, 66, 67, 68, 69, 70, 71, 72, 73, 74, 75, 76, 77, 78, 80, 81, 82, 83, 84, 85, 86, 87, 88, 89, 90, 91, 92, 93, 94, 95, 96, 97, 98, 99, 79]
section LWS
variable (ad ro bd : Nat → Nat) (c : Nat → ClassId) (Z : ZT) (L : LT) (ZM : ZT) (LM : LT) (o : Nat) (out : Nat → Int64)
set_option maxRecDepth 100000 in
theorem LW_A : kA.map (fun i => (LW ad ro bd c Z L ZM LM o out)[i]?) = (wO ad ro c Z L o out).map some := rfl
set_option maxRecDepth 100000 in
theorem LW_M : kM.map (fun i => (LW ad ro bd c Z L ZM LM o out)[i]?) = (wm bd c ZM LM).map some := rfl
set_option maxRecDepth 100000 in
theorem LW_D : ks79.map (fun i => (LW ad ro bd c Z L ZM LM o out)[i]?) = (wd ad ro c Z L).map some := rfl
set_option maxRecDepth 100000 in
theorem LW_MO : kMO.map (fun i => (LW ad ro bd c Z L ZM LM o out)[i]?) = (wm bd c ZM LM ++ [oC c o out]).map some := rfl
set_option maxRecDepth 100000 in
theorem LW_Ab : kAb.map (fun i => (wm bd c ZM LM ++ wO ad ro c Z L o out)[i]?) = (LW ad ro bd c Z L ZM LM o out).map some := rfl
set_option maxRecDepth 100000 in
theorem LW_Db : kDb.map (fun i => ((wm bd c ZM LM ++ [oC c o out]) ++ wd ad ro c Z L)[i]?) = (LW ad ro bd c Z L ZM LM o out).map some := rfl
set_option maxRecDepth 100000 in
theorem LW_Mb : kMb.map (fun i => (wO ad ro c Z L o out ++ wm bd c ZM LM)[i]?) = (LW ad ro bd c Z L ZM LM o out).map some := rfl
set_option maxRecDepth 100000 in
theorem LW_o : (LW ad ro bd c Z L ZM LM o out)[99]? = some (o, .inl (c 2, 1, .inr (.inl out))) := rfl
end LWS
theorem kA_nd : va_nd kA = true := by decide
theorem kM_nd : va_nd kM = true := by decide
theorem kMO_nd : va_nd kMO = true := by decide
theorem kAb_nd : va_nd kAb = true := by decide
theorem kDb_nd : va_nd kDb = true := by decide
theorem kMb_nd : va_nd kMb = true := by decide
theorem kAM : ∀ i ∈ kM, i ∉ kA := by decide
theorem kMA : ∀ i ∈ kA, i ∉ kM := by decide
theorem kDMO : ∀ i ∈ kMO, i ∉ ks79 := by decide
section JS
variable {D : va_G} {κ : Kx} {cc : ByteArray} {own : String} {Ts : List Cond} {tys : List (ClassId × FieldType)} {cells slots : Nat} {lv : List (Nat × Value)} {st : List Value} {ws : va_W} {b L : Nat} {xs : Nat → Int32}
theorem j_slen (C : Cx D κ cc own Ts tys) (hX : va_X b L xs (js κ) (js κ).heap) (hbl : b < (js κ).heap.size) (hbA : ¬ jA κ b) (pc : Nat) (hd : decode cc pc = .ok (.arraylength, 1)) (k : J D κ cells slots (pc + 1) lv (.int (nI L) :: st) ws) : J D κ cells slots pc lv (.ref b :: st) ws := fun H locs ls h hP hD hS => va_slen C.x C.b hX hbl hbA hS hd (k H locs ls h hP hD hS)
theorem j_sld (C : Cx D κ cc own Ts tys) (hX : va_X b L xs (js κ) (js κ).heap) (hbl : b < (js κ).heap.size) (hbA : ¬ jA κ b) (hL : L < 2 ^ 31) (pc : Nat) {i : Nat} (hi : i < L) (hd : decode cc pc = .ok (.iaload, 1)) (k : J D κ cells slots (pc + 1) lv (.int (xs i) :: st) ws) : J D κ cells slots pc lv (.int (nI i) :: .ref b :: st) ws := fun H locs ls h hP hD hS => va_sld C.x C.b hX hbl hbA hS (vp_in_nI hi hL) hd (by rw [nI_clamp (by omega)]; exact k H locs ls h hP hD hS)
end JS
theorem e_and31 (x : Int32) : ∃ k, k < 32 ∧ x &&& nI 31 = nI k := by
  refine ⟨(x &&& nI 31).toBitVec.toNat, ?_, ?_⟩
  · show (x.toBitVec &&& BitVec.ofNat 32 31).toNat < 32
    rw [BitVec.toNat_and]
    exact Nat.lt_succ_of_le (Nat.le_trans Nat.and_le_right (by decide))
  · apply Int32.toBitVec_inj.mp
    show (x &&& nI 31).toBitVec = BitVec.ofNat 32 (x &&& nI 31).toBitVec.toNat
    simp
theorem e_gt5 {i L : Nat} (hi : i ≤ 2560) (hL : L ≤ 2560) : nI L - nI 5 < nI i ↔ L < i + 5 := by
  rw [Int32.lt_iff_toInt_lt, pk_sub_toInt (by omega) (by omega), nI_toInt (by omega)]
  omega
set_option maxRecDepth 20000 in
theorem gW_L_leaf : GoodIn lw_tbl (va_wsS RL 61 yL_leaf vsL_leaf) := fun w h => ⟨in_app (wsL_mem _ [336, 337, 52] (by decide +kernel)) in_L_leaf w h, gd_app (gd_all rfl) gd_L_leaf w h⟩
set_option maxRecDepth 20000 in
theorem gW_X8_leaf : GoodIn lw_tbl (wsV RL 66 RX8 yX8_leaf vsX8_leaf) := fun w h => ⟨in_app (wsL_mem _ [914, 915, 916, 61] (by decide +kernel)) in_X8_leaf w h, gd_V gd_X8_leaf w h⟩
set_option maxRecDepth 20000 in
theorem gW_X8_thrown : GoodIn lw_tbl (wsV RL 67 RX8 yX8_thrown vsX8_thrown) := fun w h => ⟨in_app (wsL_mem _ [910, 911, 912, 61] (by decide +kernel)) in_X8_thrown w h, gd_V gd_X8_thrown w h⟩
set_option maxRecDepth 20000 in
theorem gW_L_variable : GoodIn lw_tbl (va_wsS RL 71 yL_variable vsL_variable) := fun w h => ⟨in_app (wsL_mem _ [448, 449, 52] (by decide +kernel)) in_L_variable w h, gd_app (gd_all rfl) gd_L_variable w h⟩
set_option maxRecDepth 20000 in
theorem gW_X8_variable : GoodIn lw_tbl (wsV RL 73 RX8 yX8_variable vsX8_variable) := fun w h => ⟨in_app (wsL_mem _ [922, 923, 924, 61] (by decide +kernel)) in_X8_variable w h, gd_V gd_X8_variable w h⟩
set_option maxRecDepth 20000 in
theorem gW_L_join : GoodIn lw_tbl (va_wsS RL 74 yL_join vsL_join) := fun w h => ⟨in_app (wsL_mem _ [459, 460, 52] (by decide +kernel)) in_L_join w h, gd_app (gd_all rfl) gd_L_join w h⟩
set_option maxRecDepth 20000 in
theorem gW_X8_join : GoodIn lw_tbl (wsV RL 77 RX8 yX8_join vsX8_join) := fun w h => ⟨in_app (wsL_mem _ [926, 927, 928, 61] (by decide +kernel)) in_X8_join w h, gd_V gd_X8_join w h⟩
set_option maxRecDepth 20000 in
theorem gW_L_knot : GoodIn lw_tbl (va_wsS RL 78 yL_knot vsL_knot) := fun w h => ⟨in_app (wsL_mem _ [510, 511, 52] (by decide +kernel)) in_L_knot w h, gd_app (gd_all rfl) gd_L_knot w h⟩
set_option maxRecDepth 20000 in
theorem gW_X8_knot : GoodIn lw_tbl (wsV RL 81 RX8 yX8_knot vsX8_knot) := fun w h => ⟨in_app (wsL_mem _ [938, 939, 940, 61] (by decide +kernel)) in_X8_knot w h, gd_V gd_X8_knot w h⟩
set_option maxRecDepth 20000 in
theorem gW_X7_clear : GoodIn lw_tbl (wsV RL 82 RX7 yX7_clear vsX7_clear) := fun w h => ⟨in_app (wsL_mem _ [276, 277, 278, 53] (by decide +kernel)) in_X7_clear w h, gd_V gd_X7_clear w h⟩
set_option maxRecDepth 20000 in
theorem gW_X8_clear : GoodIn lw_tbl (wsV RL 85 RX8 yX8_clear vsX8_clear) := fun w h => ⟨in_app (wsL_mem _ [942, 943, 944, 61] (by decide +kernel)) in_X8_clear w h, gd_V gd_X8_clear w h⟩
set_option maxRecDepth 20000 in
theorem gW_X7_terms : GoodIn lw_tbl (wsV RL 86 RX7 yX7_terms vsX7_terms) := fun w h => ⟨in_app (wsL_mem _ [284, 285, 286, 53] (by decide +kernel)) in_X7_terms w h, gd_V gd_X7_terms w h⟩
set_option maxRecDepth 20000 in
theorem gW_X8_terms : GoodIn lw_tbl (wsV RL 89 RX8 yX8_terms vsX8_terms) := fun w h => ⟨in_app (wsL_mem _ [946, 947, 948, 61] (by decide +kernel)) in_X8_terms w h, gd_V gd_X8_terms w h⟩
set_option maxRecDepth 20000 in
theorem gW_L_fault : GoodIn lw_tbl (va_wsS RL 90 yL_fault vsL_fault) := fun w h => ⟨in_app (wsL_mem _ [518, 519, 52] (by decide +kernel)) in_L_fault w h, gd_app (gd_all rfl) gd_L_fault w h⟩
set_option maxRecDepth 20000 in
theorem gW_X8_fault : GoodIn lw_tbl (wsV RL 92 RX8 yX8_fault vsX8_fault) := fun w h => ⟨in_app (wsL_mem _ [950, 951, 952, 61] (by decide +kernel)) in_X8_fault w h, gd_V gd_X8_fault w h⟩
set_option maxRecDepth 20000 in
theorem gW_L_type : GoodIn lw_tbl (va_wsS RL 93 yL_type vsL_type) := fun w h => ⟨in_app (wsL_mem _ [593, 594, 52] (by decide +kernel)) in_L_type w h, gd_app (gd_all rfl) gd_L_type w h⟩
set_option maxRecDepth 20000 in
theorem gW_X8_type : GoodIn lw_tbl (wsV RL 95 RX8 yX8_type vsX8_type) := fun w h => ⟨in_app (wsL_mem _ [982, 983, 984, 61] (by decide +kernel)) in_X8_type w h, gd_V gd_X8_type w h⟩
set_option maxRecDepth 20000 in
theorem gW_X7_put : GoodIn lw_tbl (wsV RL 96 RX7 yX7_put vsX7_put) := fun w h => ⟨in_app (wsL_mem _ [292, 293, 294, 53] (by decide +kernel)) in_X7_put w h, gd_V gd_X7_put w h⟩
set_option maxRecDepth 20000 in
theorem gW_X8_put : GoodIn lw_tbl (wsV RL 100 RX8 yX8_put vsX8_put) := fun w h => ⟨in_app (wsL_mem _ [986, 987, 988, 61] (by decide +kernel)) in_X8_put w h, gd_V gd_X8_put w h⟩
set_option maxRecDepth 20000 in
theorem gW_X7_cut : GoodIn lw_tbl (wsV RL 101 RX7 yX7_cut vsX7_cut) := fun w h => ⟨in_app (wsL_mem _ [304, 305, 306, 53] (by decide +kernel)) in_X7_cut w h, gd_V gd_X7_cut w h⟩
set_option maxRecDepth 20000 in
theorem gW_X8_cut : GoodIn lw_tbl (wsV RL 104 RX8 yX8_cut vsX8_cut) := fun w h => ⟨in_app (wsL_mem _ [990, 991, 992, 61] (by decide +kernel)) in_X8_cut w h, gd_V gd_X8_cut w h⟩
set_option maxRecDepth 20000 in
theorem gW_X7_length : GoodIn lw_tbl (wsV RL 105 RX7 yX7_length vsX7_length) := fun w h => ⟨in_app (wsL_mem _ [316, 317, 318, 53] (by decide +kernel)) in_X7_length w h, gd_V gd_X7_length w h⟩
set_option maxRecDepth 20000 in
theorem gW_X8_length : GoodIn lw_tbl (wsV RL 108 RX8 yX8_length vsX8_length) := fun w h => ⟨in_app (wsL_mem _ [994, 995, 996, 61] (by decide +kernel)) in_X8_length w h, gd_V gd_X8_length w h⟩
set_option maxRecDepth 20000 in
theorem gW_L_letter : GoodIn lw_tbl (va_wsS RL 109 yL_letter vsL_letter) := fun w h => ⟨in_app (wsL_mem _ [616, 617, 52] (by decide +kernel)) in_L_letter w h, gd_app (gd_all rfl) gd_L_letter w h⟩
set_option maxRecDepth 20000 in
theorem gW_X8_letter : GoodIn lw_tbl (wsV RL 111 RX8 yX8_letter vsX8_letter) := fun w h => ⟨in_app (wsL_mem _ [998, 999, 1000, 61] (by decide +kernel)) in_X8_letter w h, gd_V gd_X8_letter w h⟩
set_option maxRecDepth 20000 in
theorem gW_L_read : GoodIn lw_tbl (va_wsS RL 112 yL_read vsL_read) := fun w h => ⟨in_app (wsL_mem _ [627, 628, 52] (by decide +kernel)) in_L_read w h, gd_app (gd_all rfl) gd_L_read w h⟩
set_option maxRecDepth 20000 in
theorem gW_X8_read : GoodIn lw_tbl (wsV RL 114 RX8 yX8_read vsX8_read) := fun w h => ⟨in_app (wsL_mem _ [1002, 1003, 1004, 61] (by decide +kernel)) in_X8_read w h, gd_V gd_X8_read w h⟩
set_option maxRecDepth 20000 in
theorem gW_X7_stopped : GoodIn lw_tbl (wsV RL 115 RX7 yX7_stopped vsX7_stopped) := fun w h => ⟨in_app (wsL_mem _ [320, 321, 322, 53] (by decide +kernel)) in_X7_stopped w h, gd_V gd_X7_stopped w h⟩
set_option maxRecDepth 20000 in
theorem gW_X8_stopped : GoodIn lw_tbl (wsV RL 118 RX8 yX8_stopped vsX8_stopped) := fun w h => ⟨in_app (wsL_mem _ [1022, 1023, 1024, 61] (by decide +kernel)) in_X8_stopped w h, gd_V gd_X8_stopped w h⟩
set_option maxRecDepth 20000 in
theorem gW_X7_trace : GoodIn lw_tbl (wsV RL 119 RX7 yX7_trace vsX7_trace) := fun w h => ⟨in_app (wsL_mem _ [324, 325, 326, 53] (by decide +kernel)) in_X7_trace w h, gd_V gd_X7_trace w h⟩
set_option maxRecDepth 20000 in
theorem gW_X8_trace : GoodIn lw_tbl (wsV RL 122 RX8 yX8_trace vsX8_trace) := fun w h => ⟨in_app (wsL_mem _ [1026, 1027, 1028, 61] (by decide +kernel)) in_X8_trace w h, gd_V gd_X8_trace w h⟩
set_option maxRecDepth 20000 in
theorem gW_L_step : GoodIn lw_tbl (va_wsS RL 123 yL_step vsL_step) := fun w h => ⟨in_app (wsL_mem _ [690, 691, 52] (by decide +kernel)) in_L_step w h, gd_app (gd_all rfl) gd_L_step w h⟩
set_option maxRecDepth 20000 in
theorem gW_X8_step : GoodIn lw_tbl (wsV RL 125 RX8 yX8_step vsX8_step) := fun w h => ⟨in_app (wsL_mem _ [1030, 1031, 1032, 61] (by decide +kernel)) in_X8_step w h, gd_V gd_X8_step w h⟩
set_option maxRecDepth 20000 in
theorem gW_L_count : GoodIn lw_tbl (va_wsS RL 126 yL_count vsL_count) := fun w h => ⟨in_app (wsL_mem _ [701, 702, 52] (by decide +kernel)) in_L_count w h, gd_app (gd_all rfl) gd_L_count w h⟩
set_option maxRecDepth 20000 in
theorem gW_X8_count : GoodIn lw_tbl (wsV RL 128 RX8 yX8_count vsX8_count) := fun w h => ⟨in_app (wsL_mem _ [1034, 1035, 1036, 61] (by decide +kernel)) in_X8_count w h, gd_V gd_X8_count w h⟩
set_option maxRecDepth 20000 in
theorem gW_L_find : GoodIn lw_tbl (va_wsS RL 131 yL_find vsL_find) := fun w h => ⟨in_app (wsL_mem _ [744, 745, 52] (by decide +kernel)) in_L_find w h, gd_app (gd_all rfl) gd_L_find w h⟩
set_option maxRecDepth 20000 in
theorem gW_X8_find : GoodIn lw_tbl (wsV RL 134 RX8 yX8_find vsX8_find) := fun w h => ⟨in_app (wsL_mem _ [1050, 1051, 1052, 61] (by decide +kernel)) in_X8_find w h, gd_V gd_X8_find w h⟩
