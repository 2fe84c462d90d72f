/-! the law's wrappers -/
def oC (c : Nat → ClassId) (o : Nat) (out : Nat → Int64) : Nat × va_E := (o, .inl (c 2, 1, .inr (.inl out)))
abbrev wO (ad ro : Nat → Nat) (c : Nat → ClassId) (Z : ZT) (L : LT) (o : Nat) (out : Nat → Int64) : va_W := wd ad ro c Z L ++ [oC c o out]
abbrev ks79 : List Nat := [0, 1, 2, 3, 4, 5, 6, 7, 8, 9, 10, 11, 12, 13, 14, 15, 16, 17, 18, 19, 20, 21, 22, 23, 24, 25, 26, 27, 28, 29, 30, 31, 32, 33, 34, 35, 36, 37, 38, 39, 40, 41, 42, 43, 44, 45, 46, 47, 48, 49, 50, 51, 52, 53, 54, 55, 56, 57, 58, 59, 60, 61, 62, 63, 64, 65, 66, 67, 68, 69, 70, 71, 72, 73, 74, 75, 76, 77, 78]
abbrev ksB : List Nat := [1, 2, 3, 4, 5, 6, 7, 8, 9, 10, 11, 12, 13, 14, 15, 16, 17, 18, 19, 20, 21, 22, 23, 24, 25, 26, 27, 28, 29, 30, 31, 32, 33, 34, 35, 36, 37, 38, 39, 40, 41, 42, 43, 44, 45, 46, 47, 48, 49, 50, 51, 52, 53, 54, 55, 56, 57, 58, 59, 60, 61, 62, 63, 64, 65, 66, 67, 68, 69, 70, 71, 72, 73, 74, 75, 76, 77, 78, 79, 0]
section WO
variable (ad ro : Nat → Nat) (c : Nat → ClassId) (Z : ZT) (L : LT) (o : Nat) (out : Nat → Int64)
theorem wO_C : ks79.map (fun i => (wO ad ro c Z L o out)[i]?) = (wd ad ro c Z L).map some := rfl
theorem wO_R : [79].map (fun i => (wO ad ro c Z L o out)[i]?) = [oC c o out].map some := rfl
theorem wO_B : ksB.map (fun i => ([oC c o out] ++ wd ad ro c Z L)[i]?) = (wO ad ro c Z L o out).map some := rfl
theorem wO_o : (wO ad ro c Z L o out)[79]? = some (o, .inl (c 2, 1, .inr (.inl out))) := rfl
theorem wO_s (f : Nat → Int64) : (wO ad ro c Z L o out).set 79 (o, .inl (c 2, 1, .inr (.inl f))) = wO ad ro c Z L o f := rfl
theorem wd_C : ks79.map (fun i => (wd ad ro c Z L)[i]?) = (wd ad ro c Z L).map some := rfl
end WO
theorem ks79_nd : va_nd ks79 = true := by decide
theorem ksB_nd : va_nd ksB = true := by decide
theorem ks79_d : ∀ i ∈ [79], i ∉ ks79 := by decide
abbrev S4 : Type := (Nat → Nat) × ZT × LT × (Nat → Int64)
def vsL_leaf_o : List Cond := [.classLink RL 13 "java/lang/IllegalArgumentException", .classLink RL 15 "java/lang/UnsupportedOperationException"]
set_option maxRecDepth 20000 in
theorem vsL_leaf_oin : ∀ w ∈ vsL_leaf_o, w ∈ lw_tbl := wsL_mem _ [339, 340] (by decide +kernel)
def vsL_leaf : List Cond := .codeWith yL_leaf cL_leaf 4 (some .int) [(0, 9, 12, 13), (0, 9, 15, 15)] :: (vsL_leaf_o ++ (wsV RL 7 RX7 yX7_leaf vsX7_leaf ++ ([] : List Cond)))
theorem gd_L_leaf : ∀ w ∈ vsL_leaf, gdW w := gd_cons rfl (gd_app (gd_all (by decide +kernel)) (gd_app (gd_V gd_X7_leaf) gd_nil))
set_option maxRecDepth 20000 in
theorem in_L_leaf : ∀ w ∈ vsL_leaf, w ∈ lw_tbl := in_cons (List.mem_of_getElem? (i := 338) (by decide +kernel)) (in_app vsL_leaf_oin (in_app (in_app (wsL_mem _ [341, 342, 343, 53] (by decide +kernel)) in_X7_leaf) in_nil))
theorem mL_leaf_o : ∀ w ∈ vsL_leaf_o, w ∈ vsL_leaf := fun w h => List.mem_cons_of_mem _ (List.mem_append_left _ h)
theorem gL_leaf_X7_leaf : GoodIn vsL_leaf (wsV RL 7 RX7 yX7_leaf vsX7_leaf) := fun w h => ⟨List.mem_cons_of_mem _ (List.mem_append_right _ (List.mem_append_left _ h)), gd_V gd_X7_leaf w h⟩
set_option maxHeartbeats 1000000 in
set_option maxRecDepth 100000 in
theorem c_L_leaf (ll : Launch) (hst : ll.stackTraces = false) (D : va_G) (ad ro : Nat → Nat) (c : Nat → ClassId) (Z : ZT) (L : LT) (o : Nat) (out : Nat → Int64) {n : Nat} {τ : Tb} {w : List Nat} {st : Int32} {tr : List Nat} (x : Int32) (hSD : g_SD n τ w st tr Z L) : cYI (S := S4) ll yL_leaf vsL_leaf ({ frames := 8, cells := 2, slots := 12, locals := 126 } : Room) D (tysG c) [.ref (ad 0), .int x, .ref o] (wO ad ro c Z L o out) (fun u => wO u.1 ro c u.2.1 u.2.2.1 o u.2.2.2) (fun r u => u.1 0 = ad 0 ∧ r = nI (k_leaf n x) ∧ (k_leaf n x = 0 → u.2.2.2 0 = (nI n).toInt64 ∧ g_SD (n + 1) (t_leaf n τ x) w st tr u.2.1 u.2.2.1) ∧ (k_leaf n x ≠ 0 → g_SD n τ w st tr u.2.1 u.2.2.1)) 2 12 := by
  refine cYI_start (cc := cL_leaf) (maxL := 4) (hh := [(0, 9, 12, 13), (0, 9, 15, 15)]) RL rfl (by decide +kernel) rfl (Nat.le_of_ble_eq_true rfl) ?_
  intro κ hlκ Y hr E hR hn
  subst hlκ
  have C := Y.1
  show J D κ 0 0 0 [(0, .ref (ad 0)), (1, .int x), (2, .ref o)] [] (wO ad ro c Z L o out)
  refine j_aload_n C 0 2 dL_leaf_0 rfl rfl ?_
  refine j_iconst C 1 (v := nI 0) dL_leaf_1 rfl ?_
  refine j_aload_n C 2 0 dL_leaf_2 rfl rfl ?_
  refine j_iload_n C 3 1 dL_leaf_3 rfl rfl ?_
  have hnd : (["java/lang/IllegalArgumentException", "java/lang/UnsupportedOperationException"] : List String).Nodup := by decide
  refine j_ycallI (wr := [oC c o out]) (mc := 2) (ms := 12) Y 4 (c_X7_leaf (jl κ) hst D ad ro c Z L x hSD) gL_leaf_X7_leaf rfl rfl rfl hd_X7_leaf (by rw [hR]; exact ⟨Nat.le_of_ble_eq_true rfl, Nat.le_of_ble_eq_true rfl⟩) (ci := 7) rfl 0 (wd_o0 ad ro c Z L) ks79 [79] (wO_C _ _ _ _ _ _ _) ks79_nd (wO_R _ _ _ _ _ _ _) rfl ks79_d rfl (Nat.le_of_ble_eq_true rfl) (by rw [hR]; exact ⟨Nat.le_of_ble_eq_true rfl, Nat.le_of_ble_eq_true rfl⟩) dL_leaf_4 ["java/lang/IllegalArgumentException", "java/lang/UnsupportedOperationException"] hnd rfl (fun j z hz => ?_) (fun E9 u9 h9 => by obtain ⟨⟨i, hi, -⟩, -⟩ := h9; exact ⟨i, hi⟩) (fun i E9 u9 z h9 he hz q9 => ?_) (fun r9 u9 q9 => ?_)
  · rcases j with _ | _ | j
    · obtain rfl : (⟨0, 9, 12, 13⟩ : ExceptionTableEntry) = z := Option.some.inj hz
      exact ⟨_, rfl, by decide, rfl, by decide, C.t (.classLink RL 13 "java/lang/IllegalArgumentException") (mL_leaf_o _ (by decide +kernel))⟩
    · obtain rfl : (⟨0, 9, 15, 15⟩ : ExceptionTableEntry) = z := Option.some.inj hz
      exact ⟨_, rfl, by decide, rfl, by decide, C.t (.classLink RL 15 "java/lang/UnsupportedOperationException") (mL_leaf_o _ (by decide +kernel))⟩
    · cases (show (none : Option ExceptionTableEntry) = some z from hz)
  · obtain ⟨⟨i9, hi9, hK9⟩, hsd⟩ := h9
    have hii : i9 = i := (List.getElem?_inj (List.getElem?_eq_some_iff.mp hi9).1 hnd).mp (by rw [hi9, he])
    subst hii
    rcases i9 with _ | _ | j
    · obtain rfl : (⟨0, 9, 12, 13⟩ : ExceptionTableEntry) = z := Option.some.inj hz
      show J D κ _ _ 12 [(0, .ref (ad 0)), (1, .int x), (2, .ref o)] [.ref q9] ([oC c o out] ++ wd ad ro c u9.1 u9.2)
      refine j_pick ksB ksB_nd (wO_B ad ro c u9.1 u9.2 o out) ?_
      refine j_astore_n C 12 (lv' := [(3, .ref q9), (0, .ref (ad 0)), (1, .int x), (2, .ref o)]) dL_leaf_12 rfl (by rw [hn]; decide) rfl ?_
      refine j_iconst C 13 (v := nI 1) dL_leaf_13 rfl ?_
      exact j_xireti C hr E (Nat.le_of_ble_eq_true rfl) (Nat.le_of_ble_eq_true rfl) rfl (ad, u9.1, u9.2, out) ⟨rfl, congrArg nI hK9.symm, fun z => absurd (hK9.symm.trans z) (by decide), fun _ => hsd⟩ rfl dL_leaf_14
    · obtain rfl : (⟨0, 9, 15, 15⟩ : ExceptionTableEntry) = z := Option.some.inj hz
      show J D κ _ _ 15 [(0, .ref (ad 0)), (1, .int x), (2, .ref o)] [.ref q9] ([oC c o out] ++ wd ad ro c u9.1 u9.2)
      refine j_pick ksB ksB_nd (wO_B ad ro c u9.1 u9.2 o out) ?_
      refine j_astore_n C 15 (lv' := [(3, .ref q9), (0, .ref (ad 0)), (1, .int x), (2, .ref o)]) dL_leaf_15 rfl (by rw [hn]; decide) rfl ?_
      refine j_iconst C 16 (v := nI 2) dL_leaf_16 rfl ?_
      exact j_xireti C hr E (Nat.le_of_ble_eq_true rfl) (Nat.le_of_ble_eq_true rfl) rfl (ad, u9.1, u9.2, out) ⟨rfl, congrArg nI hK9.symm, fun z => absurd (hK9.symm.trans z) (by decide), fun _ => hsd⟩ rfl dL_leaf_17
    · cases (show (none : Option ExceptionTableEntry) = some z from hz)
  · obtain ⟨hk0, rfl, hsd⟩ := q9
    refine j_pick ksB ksB_nd (wO_B ad ro c u9.1 u9.2 o out) ?_
    refine j_i2l C 7 (v := (nI n).toInt64) dL_leaf_7 rfl ?_
    refine j_last C 8 79 2 (f := out) (wO_o ad ro c u9.1 u9.2 o out) rfl (by decide) (by decide) (wO_s ad ro c u9.1 u9.2 o out _) dL_leaf_8 ?_
    refine j_goto C 9 18 dL_leaf_9 (by decide) ?_
    refine j_iconst C 18 (v := nI 0) dL_leaf_18 rfl ?_
    exact j_xireti C hr E (Nat.le_of_ble_eq_true rfl) (Nat.le_of_ble_eq_true rfl) rfl (ad, u9.1, u9.2, vp_updL out 0 ((nI n).toInt64)) ⟨rfl, congrArg nI hk0.symm, fun _ => ⟨(vL_same : vp_updL out 0 ((nI n).toInt64) 0 = (nI n).toInt64), hsd⟩, fun z => absurd hk0 z⟩ rfl dL_leaf_19
def vsL_variable_o : List Cond := [.classLink RL 13 "java/lang/IllegalArgumentException", .classLink RL 15 "java/lang/UnsupportedOperationException"]
set_option maxRecDepth 20000 in
theorem vsL_variable_oin : ∀ w ∈ vsL_variable_o, w ∈ lw_tbl := wsL_mem _ [339, 340] (by decide +kernel)
def vsL_variable : List Cond := .codeWith yL_variable cL_variable 4 (some .int) [(0, 9, 12, 13), (0, 9, 15, 15)] :: (vsL_variable_o ++ (wsV RL 17 RX7 yX7_variable vsX7_variable ++ ([] : List Cond)))
theorem gd_L_variable : ∀ w ∈ vsL_variable, gdW w := gd_cons rfl (gd_app (gd_all (by decide +kernel)) (gd_app (gd_V gd_X7_variable) gd_nil))
set_option maxRecDepth 20000 in
theorem in_L_variable : ∀ w ∈ vsL_variable, w ∈ lw_tbl := in_cons (List.mem_of_getElem? (i := 450) (by decide +kernel)) (in_app vsL_variable_oin (in_app (in_app (wsL_mem _ [451, 452, 453, 53] (by decide +kernel)) in_X7_variable) in_nil))
theorem mL_variable_o : ∀ w ∈ vsL_variable_o, w ∈ vsL_variable := fun w h => List.mem_cons_of_mem _ (List.mem_append_left _ h)
theorem gL_variable_X7_variable : GoodIn vsL_variable (wsV RL 17 RX7 yX7_variable vsX7_variable) := fun w h => ⟨List.mem_cons_of_mem _ (List.mem_append_right _ (List.mem_append_left _ h)), gd_V gd_X7_variable w h⟩
set_option maxHeartbeats 1000000 in
set_option maxRecDepth 100000 in
theorem c_L_variable (ll : Launch) (hst : ll.stackTraces = false) (D : va_G) (ad ro : Nat → Nat) (c : Nat → ClassId) (Z : ZT) (L : LT) (o : Nat) (out : Nat → Int64) {n : Nat} {τ : Tb} {w : List Nat} {st : Int32} {tr : List Nat} (x : Int32) (hSD : g_SD n τ w st tr Z L) : cYI (S := S4) ll yL_variable vsL_variable ({ frames := 8, cells := 2, slots := 12, locals := 127 } : Room) D (tysG c) [.ref (ad 0), .int x, .ref o] (wO ad ro c Z L o out) (fun u => wO u.1 ro c u.2.1 u.2.2.1 o u.2.2.2) (fun r u => u.1 0 = ad 0 ∧ r = nI (k_var n x) ∧ (k_var n x = 0 → u.2.2.2 0 = (nI n).toInt64 ∧ g_SD (n + 1) (t_var n τ x) w st tr u.2.1 u.2.2.1) ∧ (k_var n x ≠ 0 → g_SD n τ w st tr u.2.1 u.2.2.1)) 2 12 := by
  refine cYI_start (cc := cL_variable) (maxL := 4) (hh := [(0, 9, 12, 13), (0, 9, 15, 15)]) RL rfl (by decide +kernel) rfl (Nat.le_of_ble_eq_true rfl) ?_
  intro κ hlκ Y hr E hR hn
  subst hlκ
  have C := Y.1
  show J D κ 0 0 0 [(0, .ref (ad 0)), (1, .int x), (2, .ref o)] [] (wO ad ro c Z L o out)
  refine j_aload_n C 0 2 dL_variable_0 rfl rfl ?_
  refine j_iconst C 1 (v := nI 0) dL_variable_1 rfl ?_
  refine j_aload_n C 2 0 dL_variable_2 rfl rfl ?_
  refine j_iload_n C 3 1 dL_variable_3 rfl rfl ?_
  have hnd : (["java/lang/IllegalArgumentException", "java/lang/UnsupportedOperationException"] : List String).Nodup := by decide
  refine j_ycallI (wr := [oC c o out]) (mc := 2) (ms := 12) Y 4 (c_X7_variable (jl κ) hst D ad ro c Z L x hSD) gL_variable_X7_variable rfl rfl rfl hd_X7_variable (by rw [hR]; exact ⟨Nat.le_of_ble_eq_true rfl, Nat.le_of_ble_eq_true rfl⟩) (ci := 7) rfl 0 (wd_o0 ad ro c Z L) ks79 [79] (wO_C _ _ _ _ _ _ _) ks79_nd (wO_R _ _ _ _ _ _ _) rfl ks79_d rfl (Nat.le_of_ble_eq_true rfl) (by rw [hR]; exact ⟨Nat.le_of_ble_eq_true rfl, Nat.le_of_ble_eq_true rfl⟩) dL_variable_4 ["java/lang/IllegalArgumentException", "java/lang/UnsupportedOperationException"] hnd rfl (fun j z hz => ?_) (fun E9 u9 h9 => by obtain ⟨⟨i, hi, -⟩, -⟩ := h9; exact ⟨i, hi⟩) (fun i E9 u9 z h9 he hz q9 => ?_) (fun r9 u9 q9 => ?_)
  · rcases j with _ | _ | j
    · obtain rfl : (⟨0, 9, 12, 13⟩ : ExceptionTableEntry) = z := Option.some.inj hz
      exact ⟨_, rfl, by decide, rfl, by decide, C.t (.classLink RL 13 "java/lang/IllegalArgumentException") (mL_variable_o _ (by decide +kernel))⟩
    · obtain rfl : (⟨0, 9, 15, 15⟩ : ExceptionTableEntry) = z := Option.some.inj hz
      exact ⟨_, rfl, by decide, rfl, by decide, C.t (.classLink RL 15 "java/lang/UnsupportedOperationException") (mL_variable_o _ (by decide +kernel))⟩
    · cases (show (none : Option ExceptionTableEntry) = some z from hz)
  · obtain ⟨⟨i9, hi9, hK9⟩, hsd⟩ := h9
    have hii : i9 = i := (List.getElem?_inj (List.getElem?_eq_some_iff.mp hi9).1 hnd).mp (by rw [hi9, he])
    subst hii
    rcases i9 with _ | _ | j
    · obtain rfl : (⟨0, 9, 12, 13⟩ : ExceptionTableEntry) = z := Option.some.inj hz
      show J D κ _ _ 12 [(0, .ref (ad 0)), (1, .int x), (2, .ref o)] [.ref q9] ([oC c o out] ++ wd ad ro c u9.1 u9.2)
      refine j_pick ksB ksB_nd (wO_B ad ro c u9.1 u9.2 o out) ?_
      refine j_astore_n C 12 (lv' := [(3, .ref q9), (0, .ref (ad 0)), (1, .int x), (2, .ref o)]) dL_variable_12 rfl (by rw [hn]; decide) rfl ?_
      refine j_iconst C 13 (v := nI 1) dL_variable_13 rfl ?_
      exact j_xireti C hr E (Nat.le_of_ble_eq_true rfl) (Nat.le_of_ble_eq_true rfl) rfl (ad, u9.1, u9.2, out) ⟨rfl, congrArg nI hK9.symm, fun z => absurd (hK9.symm.trans z) (by decide), fun _ => hsd⟩ rfl dL_variable_14
    · obtain rfl : (⟨0, 9, 15, 15⟩ : ExceptionTableEntry) = z := Option.some.inj hz
      show J D κ _ _ 15 [(0, .ref (ad 0)), (1, .int x), (2, .ref o)] [.ref q9] ([oC c o out] ++ wd ad ro c u9.1 u9.2)
      refine j_pick ksB ksB_nd (wO_B ad ro c u9.1 u9.2 o out) ?_
      refine j_astore_n C 15 (lv' := [(3, .ref q9), (0, .ref (ad 0)), (1, .int x), (2, .ref o)]) dL_variable_15 rfl (by rw [hn]; decide) rfl ?_
      refine j_iconst C 16 (v := nI 2) dL_variable_16 rfl ?_
      exact j_xireti C hr E (Nat.le_of_ble_eq_true rfl) (Nat.le_of_ble_eq_true rfl) rfl (ad, u9.1, u9.2, out) ⟨rfl, congrArg nI hK9.symm, fun z => absurd (hK9.symm.trans z) (by decide), fun _ => hsd⟩ rfl dL_variable_17
    · cases (show (none : Option ExceptionTableEntry) = some z from hz)
  · obtain ⟨hk0, rfl, hsd⟩ := q9
    refine j_pick ksB ksB_nd (wO_B ad ro c u9.1 u9.2 o out) ?_
    refine j_i2l C 7 (v := (nI n).toInt64) dL_variable_7 rfl ?_
    refine j_last C 8 79 2 (f := out) (wO_o ad ro c u9.1 u9.2 o out) rfl (by decide) (by decide) (wO_s ad ro c u9.1 u9.2 o out _) dL_variable_8 ?_
    refine j_goto C 9 18 dL_variable_9 (by decide) ?_
    refine j_iconst C 18 (v := nI 0) dL_variable_18 rfl ?_
    exact j_xireti C hr E (Nat.le_of_ble_eq_true rfl) (Nat.le_of_ble_eq_true rfl) rfl (ad, u9.1, u9.2, vp_updL out 0 ((nI n).toInt64)) ⟨rfl, congrArg nI hk0.symm, fun _ => ⟨(vL_same : vp_updL out 0 ((nI n).toInt64) 0 = (nI n).toInt64), hsd⟩, fun z => absurd hk0 z⟩ rfl dL_variable_19
def vsL_join_o : List Cond := [.classLink RL 24 "java/lang/IndexOutOfBoundsException", .classLink RL 26 "java/lang/IllegalStateException", .classLink RL 15 "java/lang/UnsupportedOperationException"]
set_option maxRecDepth 20000 in
theorem vsL_join_oin : ∀ w ∈ vsL_join_o, w ∈ lw_tbl := wsL_mem _ [462, 463, 340] (by decide +kernel)
def vsL_join : List Cond := .codeWith yL_join cL_join 6 (some .int) [(0, 12, 15, 24), (0, 12, 19, 26), (0, 12, 23, 15)] :: (vsL_join_o ++ (wsV RL 20 RX7 yX7_join vsX7_join ++ ([] : List Cond)))
theorem gd_L_join : ∀ w ∈ vsL_join, gdW w := gd_cons rfl (gd_app (gd_all (by decide +kernel)) (gd_app (gd_V gd_X7_join) gd_nil))
set_option maxRecDepth 20000 in
theorem in_L_join : ∀ w ∈ vsL_join, w ∈ lw_tbl := in_cons (List.mem_of_getElem? (i := 461) (by decide +kernel)) (in_app vsL_join_oin (in_app (in_app (wsL_mem _ [464, 465, 466, 53] (by decide +kernel)) in_X7_join) in_nil))
theorem mL_join_o : ∀ w ∈ vsL_join_o, w ∈ vsL_join := fun w h => List.mem_cons_of_mem _ (List.mem_append_left _ h)
theorem gL_join_X7_join : GoodIn vsL_join (wsV RL 20 RX7 yX7_join vsX7_join) := fun w h => ⟨List.mem_cons_of_mem _ (List.mem_append_right _ (List.mem_append_left _ h)), gd_V gd_X7_join w h⟩
set_option maxHeartbeats 1000000 in
set_option maxRecDepth 100000 in
theorem c_L_join (ll : Launch) (hst : ll.stackTraces = false) (D : va_G) (ad ro : Nat → Nat) (c : Nat → ClassId) (Z : ZT) (L : LT) (o : Nat) (out : Nat → Int64) {n : Nat} {τ : Tb} {w : List Nat} {st : Int32} {tr : List Nat} (a : Int32) (b : Int32) (e : Bool) (hSD : g_SD n τ w st tr Z L) : cYI (S := S4) ll yL_join vsL_join ({ frames := 8, cells := 4, slots := 24, locals := 129 } : Room) D (tysG c) [.ref (ad 0), .int a, .int b, .int (b2 e), .ref o] (wO ad ro c Z L o out) (fun u => wO u.1 ro c u.2.1 u.2.2.1 o u.2.2.2) (fun r u => u.1 0 = ad 0 ∧ r = nI (k_join n τ a b) ∧ (k_join n τ a b = 0 → u.2.2.2 0 = (nI n).toInt64 ∧ g_SD (n + 1) (t_join n τ a b e) w st tr u.2.1 u.2.2.1) ∧ (k_join n τ a b ≠ 0 → g_SD n τ w st tr u.2.1 u.2.2.1)) 4 24 := by
  refine cYI_start (cc := cL_join) (maxL := 6) (hh := [(0, 12, 15, 24), (0, 12, 19, 26), (0, 12, 23, 15)]) RL rfl (by decide +kernel) rfl (Nat.le_of_ble_eq_true rfl) ?_
  intro κ hlκ Y hr E hR hn
  subst hlκ
  have C := Y.1
  show J D κ 0 0 0 [(0, .ref (ad 0)), (1, .int a), (2, .int b), (3, .int (b2 e)), (4, .ref o)] [] (wO ad ro c Z L o out)
  refine j_aload C 0 4 dL_join_0 rfl ?_
  refine j_iconst C 2 (v := nI 0) dL_join_2 rfl ?_
  refine j_aload_n C 3 0 dL_join_3 rfl rfl ?_
  refine j_iload_n C 4 1 dL_join_4 rfl rfl ?_
  refine j_iload_n C 5 2 dL_join_5 rfl rfl ?_
  refine j_iload_n C 6 3 dL_join_6 rfl rfl ?_
  have hnd : (["java/lang/IndexOutOfBoundsException", "java/lang/IllegalStateException", "java/lang/UnsupportedOperationException"] : List String).Nodup := by decide
  refine j_ycallI (wr := [oC c o out]) (mc := 4) (ms := 24) Y 7 (c_X7_join (jl κ) hst D ad ro c Z L a b e hSD) gL_join_X7_join rfl rfl rfl hd_X7_join (by rw [hR]; exact ⟨Nat.le_of_ble_eq_true rfl, Nat.le_of_ble_eq_true rfl⟩) (ci := 7) rfl 0 (wd_o0 ad ro c Z L) ks79 [79] (wO_C _ _ _ _ _ _ _) ks79_nd (wO_R _ _ _ _ _ _ _) rfl ks79_d rfl (Nat.le_of_ble_eq_true rfl) (by rw [hR]; exact ⟨Nat.le_of_ble_eq_true rfl, Nat.le_of_ble_eq_true rfl⟩) dL_join_7 ["java/lang/IndexOutOfBoundsException", "java/lang/IllegalStateException", "java/lang/UnsupportedOperationException"] hnd rfl (fun j z hz => ?_) (fun E9 u9 h9 => by obtain ⟨⟨i, hi, -⟩, -⟩ := h9; exact ⟨i, hi⟩) (fun i E9 u9 z h9 he hz q9 => ?_) (fun r9 u9 q9 => ?_)
  · rcases j with _ | _ | _ | j
    · obtain rfl : (⟨0, 12, 15, 24⟩ : ExceptionTableEntry) = z := Option.some.inj hz
      exact ⟨_, rfl, by decide, rfl, by decide, C.t (.classLink RL 24 "java/lang/IndexOutOfBoundsException") (mL_join_o _ (by decide +kernel))⟩
    · obtain rfl : (⟨0, 12, 19, 26⟩ : ExceptionTableEntry) = z := Option.some.inj hz
      exact ⟨_, rfl, by decide, rfl, by decide, C.t (.classLink RL 26 "java/lang/IllegalStateException") (mL_join_o _ (by decide +kernel))⟩
    · obtain rfl : (⟨0, 12, 23, 15⟩ : ExceptionTableEntry) = z := Option.some.inj hz
      exact ⟨_, rfl, by decide, rfl, by decide, C.t (.classLink RL 15 "java/lang/UnsupportedOperationException") (mL_join_o _ (by decide +kernel))⟩
    · cases (show (none : Option ExceptionTableEntry) = some z from hz)
  · obtain ⟨⟨i9, hi9, hK9⟩, hsd⟩ := h9
    have hii : i9 = i := (List.getElem?_inj (List.getElem?_eq_some_iff.mp hi9).1 hnd).mp (by rw [hi9, he])
    subst hii
    rcases i9 with _ | _ | _ | j
    · obtain rfl : (⟨0, 12, 15, 24⟩ : ExceptionTableEntry) = z := Option.some.inj hz
      show J D κ _ _ 15 [(0, .ref (ad 0)), (1, .int a), (2, .int b), (3, .int (b2 e)), (4, .ref o)] [.ref q9] ([oC c o out] ++ wd ad ro c u9.1 u9.2)
      refine j_pick ksB ksB_nd (wO_B ad ro c u9.1 u9.2 o out) ?_
      refine j_astore C 15 (lv' := [(5, .ref q9), (0, .ref (ad 0)), (1, .int a), (2, .int b), (3, .int (b2 e)), (4, .ref o)]) dL_join_15 (by rw [hn]; decide) rfl ?_
      refine j_iconst C 17 (v := nI 1) dL_join_17 rfl ?_
      exact j_xireti C hr E (Nat.le_of_ble_eq_true rfl) (Nat.le_of_ble_eq_true rfl) rfl (ad, u9.1, u9.2, out) ⟨rfl, congrArg nI hK9.symm, fun z => absurd (hK9.symm.trans z) (by decide), fun _ => hsd⟩ rfl dL_join_18
    · obtain rfl : (⟨0, 12, 19, 26⟩ : ExceptionTableEntry) = z := Option.some.inj hz
      show J D κ _ _ 19 [(0, .ref (ad 0)), (1, .int a), (2, .int b), (3, .int (b2 e)), (4, .ref o)] [.ref q9] ([oC c o out] ++ wd ad ro c u9.1 u9.2)
      refine j_pick ksB ksB_nd (wO_B ad ro c u9.1 u9.2 o out) ?_
      refine j_astore C 19 (lv' := [(5, .ref q9), (0, .ref (ad 0)), (1, .int a), (2, .int b), (3, .int (b2 e)), (4, .ref o)]) dL_join_19 (by rw [hn]; decide) rfl ?_
      refine j_iconst C 21 (v := nI 2) dL_join_21 rfl ?_
      exact j_xireti C hr E (Nat.le_of_ble_eq_true rfl) (Nat.le_of_ble_eq_true rfl) rfl (ad, u9.1, u9.2, out) ⟨rfl, congrArg nI hK9.symm, fun z => absurd (hK9.symm.trans z) (by decide), fun _ => hsd⟩ rfl dL_join_22
    · obtain rfl : (⟨0, 12, 23, 15⟩ : ExceptionTableEntry) = z := Option.some.inj hz
      show J D κ _ _ 23 [(0, .ref (ad 0)), (1, .int a), (2, .int b), (3, .int (b2 e)), (4, .ref o)] [.ref q9] ([oC c o out] ++ wd ad ro c u9.1 u9.2)
      refine j_pick ksB ksB_nd (wO_B ad ro c u9.1 u9.2 o out) ?_
      refine j_astore C 23 (lv' := [(5, .ref q9), (0, .ref (ad 0)), (1, .int a), (2, .int b), (3, .int (b2 e)), (4, .ref o)]) dL_join_23 (by rw [hn]; decide) rfl ?_
      refine j_iconst C 25 (v := nI 3) dL_join_25 rfl ?_
      exact j_xireti C hr E (Nat.le_of_ble_eq_true rfl) (Nat.le_of_ble_eq_true rfl) rfl (ad, u9.1, u9.2, out) ⟨rfl, congrArg nI hK9.symm, fun z => absurd (hK9.symm.trans z) (by decide), fun _ => hsd⟩ rfl dL_join_26
    · cases (show (none : Option ExceptionTableEntry) = some z from hz)
  · obtain ⟨hk0, rfl, hsd⟩ := q9
    refine j_pick ksB ksB_nd (wO_B ad ro c u9.1 u9.2 o out) ?_
    refine j_i2l C 10 (v := (nI n).toInt64) dL_join_10 rfl ?_
    refine j_last C 11 79 2 (f := out) (wO_o ad ro c u9.1 u9.2 o out) rfl (by decide) (by decide) (wO_s ad ro c u9.1 u9.2 o out _) dL_join_11 ?_
    refine j_goto C 12 27 dL_join_12 (by decide) ?_
    refine j_iconst C 27 (v := nI 0) dL_join_27 rfl ?_
    exact j_xireti C hr E (Nat.le_of_ble_eq_true rfl) (Nat.le_of_ble_eq_true rfl) rfl (ad, u9.1, u9.2, vp_updL out 0 ((nI n).toInt64)) ⟨rfl, congrArg nI hk0.symm, fun _ => ⟨(vL_same : vp_updL out 0 ((nI n).toInt64) 0 = (nI n).toInt64), hsd⟩, fun z => absurd hk0 z⟩ rfl dL_join_28
def vsL_knot_o : List Cond := [.classLink RL 24 "java/lang/IndexOutOfBoundsException", .classLink RL 26 "java/lang/IllegalStateException", .classLink RL 13 "java/lang/IllegalArgumentException", .classLink RL 15 "java/lang/UnsupportedOperationException"]
set_option maxRecDepth 20000 in
theorem vsL_knot_oin : ∀ w ∈ vsL_knot_o, w ∈ lw_tbl := wsL_mem _ [462, 463, 339, 340] (by decide +kernel)
def vsL_knot : List Cond := .codeWith yL_knot cL_knot 5 (some .int) [(0, 10, 13, 24), (0, 10, 17, 26), (0, 10, 21, 13), (0, 10, 25, 15)] :: (vsL_knot_o ++ (wsV RL 28 RX7 yX7_knot vsX7_knot ++ ([] : List Cond)))
theorem gd_L_knot : ∀ w ∈ vsL_knot, gdW w := gd_cons rfl (gd_app (gd_all (by decide +kernel)) (gd_app (gd_V gd_X7_knot) gd_nil))
set_option maxRecDepth 20000 in
theorem in_L_knot : ∀ w ∈ vsL_knot, w ∈ lw_tbl := in_cons (List.mem_of_getElem? (i := 512) (by decide +kernel)) (in_app vsL_knot_oin (in_app (in_app (wsL_mem _ [513, 514, 515, 53] (by decide +kernel)) in_X7_knot) in_nil))
theorem mL_knot_o : ∀ w ∈ vsL_knot_o, w ∈ vsL_knot := fun w h => List.mem_cons_of_mem _ (List.mem_append_left _ h)
theorem gL_knot_X7_knot : GoodIn vsL_knot (wsV RL 28 RX7 yX7_knot vsX7_knot) := fun w h => ⟨List.mem_cons_of_mem _ (List.mem_append_right _ (List.mem_append_left _ h)), gd_V gd_X7_knot w h⟩
set_option maxHeartbeats 1000000 in
set_option maxRecDepth 100000 in
theorem c_L_knot (ll : Launch) (hst : ll.stackTraces = false) (D : va_G) (ad ro : Nat → Nat) (c : Nat → ClassId) (Z : ZT) (L : LT) (o : Nat) (out : Nat → Int64) {n : Nat} {τ : Tb} {w : List Nat} {st : Int32} {tr : List Nat} (x : Int32) (a : Int32) (hSD : g_SD n τ w st tr Z L) : cYI (S := S4) ll yL_knot vsL_knot ({ frames := 8, cells := 4, slots := 24, locals := 128 } : Room) D (tysG c) [.ref (ad 0), .int x, .int a, .ref o] (wO ad ro c Z L o out) (fun u => wO u.1 ro c u.2.1 u.2.2.1 o u.2.2.2) (fun r u => u.1 0 = ad 0 ∧ r = nI (k_knot n τ x a) ∧ (k_knot n τ x a = 0 → u.2.2.2 0 = (nI n).toInt64 ∧ g_SD (n + 1) (t_knot n τ x a) w st tr u.2.1 u.2.2.1) ∧ (k_knot n τ x a ≠ 0 → g_SD n τ w st tr u.2.1 u.2.2.1)) 4 24 := by
  refine cYI_start (cc := cL_knot) (maxL := 5) (hh := [(0, 10, 13, 24), (0, 10, 17, 26), (0, 10, 21, 13), (0, 10, 25, 15)]) RL rfl (by decide +kernel) rfl (Nat.le_of_ble_eq_true rfl) ?_
  intro κ hlκ Y hr E hR hn
  subst hlκ
  have C := Y.1
  show J D κ 0 0 0 [(0, .ref (ad 0)), (1, .int x), (2, .int a), (3, .ref o)] [] (wO ad ro c Z L o out)
  refine j_aload_n C 0 3 dL_knot_0 rfl rfl ?_
  refine j_iconst C 1 (v := nI 0) dL_knot_1 rfl ?_
  refine j_aload_n C 2 0 dL_knot_2 rfl rfl ?_
  refine j_iload_n C 3 1 dL_knot_3 rfl rfl ?_
  refine j_iload_n C 4 2 dL_knot_4 rfl rfl ?_
  have hnd : (["java/lang/IndexOutOfBoundsException", "java/lang/IllegalStateException", "java/lang/IllegalArgumentException", "java/lang/UnsupportedOperationException"] : List String).Nodup := by decide
  refine j_ycallI (wr := [oC c o out]) (mc := 4) (ms := 24) Y 5 (c_X7_knot (jl κ) hst D ad ro c Z L x a hSD) gL_knot_X7_knot rfl rfl rfl hd_X7_knot (by rw [hR]; exact ⟨Nat.le_of_ble_eq_true rfl, Nat.le_of_ble_eq_true rfl⟩) (ci := 7) rfl 0 (wd_o0 ad ro c Z L) ks79 [79] (wO_C _ _ _ _ _ _ _) ks79_nd (wO_R _ _ _ _ _ _ _) rfl ks79_d rfl (Nat.le_of_ble_eq_true rfl) (by rw [hR]; exact ⟨Nat.le_of_ble_eq_true rfl, Nat.le_of_ble_eq_true rfl⟩) dL_knot_5 ["java/lang/IndexOutOfBoundsException", "java/lang/IllegalStateException", "java/lang/IllegalArgumentException", "java/lang/UnsupportedOperationException"] hnd rfl (fun j z hz => ?_) (fun E9 u9 h9 => by obtain ⟨⟨i, hi, -⟩, -⟩ := h9; exact ⟨i, hi⟩) (fun i E9 u9 z h9 he hz q9 => ?_) (fun r9 u9 q9 => ?_)
  · rcases j with _ | _ | _ | _ | j
    · obtain rfl : (⟨0, 10, 13, 24⟩ : ExceptionTableEntry) = z := Option.some.inj hz
      exact ⟨_, rfl, by decide, rfl, by decide, C.t (.classLink RL 24 "java/lang/IndexOutOfBoundsException") (mL_knot_o _ (by decide +kernel))⟩
    · obtain rfl : (⟨0, 10, 17, 26⟩ : ExceptionTableEntry) = z := Option.some.inj hz
      exact ⟨_, rfl, by decide, rfl, by decide, C.t (.classLink RL 26 "java/lang/IllegalStateException") (mL_knot_o _ (by decide +kernel))⟩
    · obtain rfl : (⟨0, 10, 21, 13⟩ : ExceptionTableEntry) = z := Option.some.inj hz
      exact ⟨_, rfl, by decide, rfl, by decide, C.t (.classLink RL 13 "java/lang/IllegalArgumentException") (mL_knot_o _ (by decide +kernel))⟩
    · obtain rfl : (⟨0, 10, 25, 15⟩ : ExceptionTableEntry) = z := Option.some.inj hz
      exact ⟨_, rfl, by decide, rfl, by decide, C.t (.classLink RL 15 "java/lang/UnsupportedOperationException") (mL_knot_o _ (by decide +kernel))⟩
    · cases (show (none : Option ExceptionTableEntry) = some z from hz)
  · obtain ⟨⟨i9, hi9, hK9⟩, hsd⟩ := h9
    have hii : i9 = i := (List.getElem?_inj (List.getElem?_eq_some_iff.mp hi9).1 hnd).mp (by rw [hi9, he])
    subst hii
    rcases i9 with _ | _ | _ | _ | j
    · obtain rfl : (⟨0, 10, 13, 24⟩ : ExceptionTableEntry) = z := Option.some.inj hz
      show J D κ _ _ 13 [(0, .ref (ad 0)), (1, .int x), (2, .int a), (3, .ref o)] [.ref q9] ([oC c o out] ++ wd ad ro c u9.1 u9.2)
      refine j_pick ksB ksB_nd (wO_B ad ro c u9.1 u9.2 o out) ?_
      refine j_astore C 13 (lv' := [(4, .ref q9), (0, .ref (ad 0)), (1, .int x), (2, .int a), (3, .ref o)]) dL_knot_13 (by rw [hn]; decide) rfl ?_
      refine j_iconst C 15 (v := nI 1) dL_knot_15 rfl ?_
      exact j_xireti C hr E (Nat.le_of_ble_eq_true rfl) (Nat.le_of_ble_eq_true rfl) rfl (ad, u9.1, u9.2, out) ⟨rfl, congrArg nI hK9.symm, fun z => absurd (hK9.symm.trans z) (by decide), fun _ => hsd⟩ rfl dL_knot_16
    · obtain rfl : (⟨0, 10, 17, 26⟩ : ExceptionTableEntry) = z := Option.some.inj hz
      show J D κ _ _ 17 [(0, .ref (ad 0)), (1, .int x), (2, .int a), (3, .ref o)] [.ref q9] ([oC c o out] ++ wd ad ro c u9.1 u9.2)
      refine j_pick ksB ksB_nd (wO_B ad ro c u9.1 u9.2 o out) ?_
      refine j_astore C 17 (lv' := [(4, .ref q9), (0, .ref (ad 0)), (1, .int x), (2, .int a), (3, .ref o)]) dL_knot_17 (by rw [hn]; decide) rfl ?_
      refine j_iconst C 19 (v := nI 2) dL_knot_19 rfl ?_
      exact j_xireti C hr E (Nat.le_of_ble_eq_true rfl) (Nat.le_of_ble_eq_true rfl) rfl (ad, u9.1, u9.2, out) ⟨rfl, congrArg nI hK9.symm, fun z => absurd (hK9.symm.trans z) (by decide), fun _ => hsd⟩ rfl dL_knot_20
    · obtain rfl : (⟨0, 10, 21, 13⟩ : ExceptionTableEntry) = z := Option.some.inj hz
      show J D κ _ _ 21 [(0, .ref (ad 0)), (1, .int x), (2, .int a), (3, .ref o)] [.ref q9] ([oC c o out] ++ wd ad ro c u9.1 u9.2)
      refine j_pick ksB ksB_nd (wO_B ad ro c u9.1 u9.2 o out) ?_
      refine j_astore C 21 (lv' := [(4, .ref q9), (0, .ref (ad 0)), (1, .int x), (2, .int a), (3, .ref o)]) dL_knot_21 (by rw [hn]; decide) rfl ?_
      refine j_iconst C 23 (v := nI 3) dL_knot_23 rfl ?_
      exact j_xireti C hr E (Nat.le_of_ble_eq_true rfl) (Nat.le_of_ble_eq_true rfl) rfl (ad, u9.1, u9.2, out) ⟨rfl, congrArg nI hK9.symm, fun z => absurd (hK9.symm.trans z) (by decide), fun _ => hsd⟩ rfl dL_knot_24
    · obtain rfl : (⟨0, 10, 25, 15⟩ : ExceptionTableEntry) = z := Option.some.inj hz
      show J D κ _ _ 25 [(0, .ref (ad 0)), (1, .int x), (2, .int a), (3, .ref o)] [.ref q9] ([oC c o out] ++ wd ad ro c u9.1 u9.2)
      refine j_pick ksB ksB_nd (wO_B ad ro c u9.1 u9.2 o out) ?_
      refine j_astore C 25 (lv' := [(4, .ref q9), (0, .ref (ad 0)), (1, .int x), (2, .int a), (3, .ref o)]) dL_knot_25 (by rw [hn]; decide) rfl ?_
      refine j_iconst C 27 (v := nI 4) dL_knot_27 rfl ?_
      exact j_xireti C hr E (Nat.le_of_ble_eq_true rfl) (Nat.le_of_ble_eq_true rfl) rfl (ad, u9.1, u9.2, out) ⟨rfl, congrArg nI hK9.symm, fun z => absurd (hK9.symm.trans z) (by decide), fun _ => hsd⟩ rfl dL_knot_28
    · cases (show (none : Option ExceptionTableEntry) = some z from hz)
  · obtain ⟨hk0, rfl, hsd⟩ := q9
    refine j_pick ksB ksB_nd (wO_B ad ro c u9.1 u9.2 o out) ?_
    refine j_i2l C 8 (v := (nI n).toInt64) dL_knot_8 rfl ?_
    refine j_last C 9 79 2 (f := out) (wO_o ad ro c u9.1 u9.2 o out) rfl (by decide) (by decide) (wO_s ad ro c u9.1 u9.2 o out _) dL_knot_9 ?_
    refine j_goto C 10 29 dL_knot_10 (by decide) ?_
    refine j_iconst C 29 (v := nI 0) dL_knot_29 rfl ?_
    exact j_xireti C hr E (Nat.le_of_ble_eq_true rfl) (Nat.le_of_ble_eq_true rfl) rfl (ad, u9.1, u9.2, vp_updL out 0 ((nI n).toInt64)) ⟨rfl, congrArg nI hk0.symm, fun _ => ⟨(vL_same : vp_updL out 0 ((nI n).toInt64) 0 = (nI n).toInt64), hsd⟩, fun z => absurd hk0 z⟩ rfl dL_knot_30
def vsL_fault_o : List Cond := [.classLink RL 24 "java/lang/IndexOutOfBoundsException"]
set_option maxRecDepth 20000 in
theorem vsL_fault_oin : ∀ w ∈ vsL_fault_o, w ∈ lw_tbl := wsL_mem _ [462] (by decide +kernel)
def vsL_fault : List Cond := .codeWith yL_fault cL_fault 4 (some .int) [(0, 9, 12, 24)] :: (vsL_fault_o ++ (wsV RL 32 RX7 yX7_fault vsX7_fault ++ ([] : List Cond)))
theorem gd_L_fault : ∀ w ∈ vsL_fault, gdW w := gd_cons rfl (gd_app (gd_all (by decide +kernel)) (gd_app (gd_V gd_X7_fault) gd_nil))
set_option maxRecDepth 20000 in
theorem in_L_fault : ∀ w ∈ vsL_fault, w ∈ lw_tbl := in_cons (List.mem_of_getElem? (i := 520) (by decide +kernel)) (in_app vsL_fault_oin (in_app (in_app (wsL_mem _ [521, 522, 523, 53] (by decide +kernel)) in_X7_fault) in_nil))
theorem mL_fault_o : ∀ w ∈ vsL_fault_o, w ∈ vsL_fault := fun w h => List.mem_cons_of_mem _ (List.mem_append_left _ h)
theorem gL_fault_X7_fault : GoodIn vsL_fault (wsV RL 32 RX7 yX7_fault vsX7_fault) := fun w h => ⟨List.mem_cons_of_mem _ (List.mem_append_right _ (List.mem_append_left _ h)), gd_V gd_X7_fault w h⟩
set_option maxHeartbeats 1000000 in
set_option maxRecDepth 100000 in
theorem c_L_fault (ll : Launch) (hst : ll.stackTraces = false) (D : va_G) (ad ro : Nat → Nat) (c : Nat → ClassId) (Z : ZT) (L : LT) (o : Nat) (out : Nat → Int64) {n : Nat} {τ : Tb} {w : List Nat} {st : Int32} {tr : List Nat} (x : Int32) (hSD : g_SD n τ w st tr Z L) : cYI (S := S4) ll yL_fault vsL_fault ({ frames := 8, cells := 1, slots := 6, locals := 138 } : Room) D (tysG c) [.ref (ad 0), .int x, .ref o] (wO ad ro c Z L o out) (fun u => wO u.1 ro c u.2.1 u.2.2.1 o u.2.2.2) (fun r u => u.1 0 = ad 0 ∧ r = nI (k_fault n x) ∧ (k_fault n x = 0 → u.2.2.2 0 = (nI (g_fo τ (cN x))).toInt64 ∧ g_SD n τ w st tr u.2.1 u.2.2.1) ∧ (k_fault n x ≠ 0 → g_SD n τ w st tr u.2.1 u.2.2.1)) 1 6 := by
  refine cYI_start (cc := cL_fault) (maxL := 4) (hh := [(0, 9, 12, 24)]) RL rfl (by decide +kernel) rfl (Nat.le_of_ble_eq_true rfl) ?_
  intro κ hlκ Y hr E hR hn
  subst hlκ
  have C := Y.1
  show J D κ 0 0 0 [(0, .ref (ad 0)), (1, .int x), (2, .ref o)] [] (wO ad ro c Z L o out)
  refine j_aload_n C 0 2 dL_fault_0 rfl rfl ?_
  refine j_iconst C 1 (v := nI 0) dL_fault_1 rfl ?_
  refine j_aload_n C 2 0 dL_fault_2 rfl rfl ?_
  refine j_iload_n C 3 1 dL_fault_3 rfl rfl ?_
  have hnd : (["java/lang/IndexOutOfBoundsException"] : List String).Nodup := by decide
  refine j_ycallI (wr := [oC c o out]) (mc := 1) (ms := 6) Y 4 (c_X7_fault (jl κ) hst D ad ro c Z L x hSD) gL_fault_X7_fault rfl rfl rfl hd_X7_fault (by rw [hR]; exact ⟨Nat.le_of_ble_eq_true rfl, Nat.le_of_ble_eq_true rfl⟩) (ci := 7) rfl 0 (wd_o0 ad ro c Z L) ks79 [79] (wO_C _ _ _ _ _ _ _) ks79_nd (wO_R _ _ _ _ _ _ _) rfl ks79_d rfl (Nat.le_of_ble_eq_true rfl) (by rw [hR]; exact ⟨Nat.le_of_ble_eq_true rfl, Nat.le_of_ble_eq_true rfl⟩) dL_fault_4 ["java/lang/IndexOutOfBoundsException"] hnd rfl (fun j z hz => ?_) (fun E9 u9 h9 => by obtain ⟨⟨i, hi, -⟩, -⟩ := h9; exact ⟨i, hi⟩) (fun i E9 u9 z h9 he hz q9 => ?_) (fun r9 u9 q9 => ?_)
  · rcases j with _ | j
    · obtain rfl : (⟨0, 9, 12, 24⟩ : ExceptionTableEntry) = z := Option.some.inj hz
      exact ⟨_, rfl, by decide, rfl, by decide, C.t (.classLink RL 24 "java/lang/IndexOutOfBoundsException") (mL_fault_o _ (by decide +kernel))⟩
    · cases (show (none : Option ExceptionTableEntry) = some z from hz)
  · obtain ⟨⟨i9, hi9, hK9⟩, hsd⟩ := h9
    have hii : i9 = i := (List.getElem?_inj (List.getElem?_eq_some_iff.mp hi9).1 hnd).mp (by rw [hi9, he])
    subst hii
    rcases i9 with _ | j
    · obtain rfl : (⟨0, 9, 12, 24⟩ : ExceptionTableEntry) = z := Option.some.inj hz
      show J D κ _ _ 12 [(0, .ref (ad 0)), (1, .int x), (2, .ref o)] [.ref q9] ([oC c o out] ++ wd ad ro c u9.1 u9.2)
      refine j_pick ksB ksB_nd (wO_B ad ro c u9.1 u9.2 o out) ?_
      refine j_astore_n C 12 (lv' := [(3, .ref q9), (0, .ref (ad 0)), (1, .int x), (2, .ref o)]) dL_fault_12 rfl (by rw [hn]; decide) rfl ?_
      refine j_iconst C 13 (v := nI 1) dL_fault_13 rfl ?_
      exact j_xireti C hr E (Nat.le_of_ble_eq_true rfl) (Nat.le_of_ble_eq_true rfl) rfl (ad, u9.1, u9.2, out) ⟨rfl, congrArg nI hK9.symm, fun z => absurd (hK9.symm.trans z) (by decide), fun _ => hsd⟩ rfl dL_fault_14
    · cases (show (none : Option ExceptionTableEntry) = some z from hz)
  · obtain ⟨hk0, rfl, hsd⟩ := q9
    refine j_pick ksB ksB_nd (wO_B ad ro c u9.1 u9.2 o out) ?_
    refine j_i2l C 7 (v := (nI (g_fo τ (cN x))).toInt64) dL_fault_7 rfl ?_
    refine j_last C 8 79 2 (f := out) (wO_o ad ro c u9.1 u9.2 o out) rfl (by decide) (by decide) (wO_s ad ro c u9.1 u9.2 o out _) dL_fault_8 ?_
    refine j_goto C 9 15 dL_fault_9 (by decide) ?_
    refine j_iconst C 15 (v := nI 0) dL_fault_15 rfl ?_
    exact j_xireti C hr E (Nat.le_of_ble_eq_true rfl) (Nat.le_of_ble_eq_true rfl) rfl (ad, u9.1, u9.2, vp_updL out 0 ((nI (g_fo τ (cN x))).toInt64)) ⟨rfl, congrArg nI hk0.symm, fun _ => ⟨(vL_same : vp_updL out 0 ((nI (g_fo τ (cN x))).toInt64) 0 = (nI (g_fo τ (cN x))).toInt64), hsd⟩, fun z => absurd hk0 z⟩ rfl dL_fault_16
def vsL_type_o : List Cond := [.classLink RL 24 "java/lang/IndexOutOfBoundsException", .classLink RL 26 "java/lang/IllegalStateException"]
set_option maxRecDepth 20000 in
theorem vsL_type_oin : ∀ w ∈ vsL_type_o, w ∈ lw_tbl := wsL_mem _ [462, 463] (by decide +kernel)
def vsL_type : List Cond := .codeWith yL_type cL_type 5 (some .int) [(0, 10, 13, 24), (0, 10, 17, 26)] :: (vsL_type_o ++ (wsV RL 35 RX7 yX7_type vsX7_type ++ ([] : List Cond)))
theorem gd_L_type : ∀ w ∈ vsL_type, gdW w := gd_cons rfl (gd_app (gd_all (by decide +kernel)) (gd_app (gd_V gd_X7_type) gd_nil))
set_option maxRecDepth 20000 in
theorem in_L_type : ∀ w ∈ vsL_type, w ∈ lw_tbl := in_cons (List.mem_of_getElem? (i := 595) (by decide +kernel)) (in_app vsL_type_oin (in_app (in_app (wsL_mem _ [596, 597, 598, 53] (by decide +kernel)) in_X7_type) in_nil))
theorem mL_type_o : ∀ w ∈ vsL_type_o, w ∈ vsL_type := fun w h => List.mem_cons_of_mem _ (List.mem_append_left _ h)
theorem gL_type_X7_type : GoodIn vsL_type (wsV RL 35 RX7 yX7_type vsX7_type) := fun w h => ⟨List.mem_cons_of_mem _ (List.mem_append_right _ (List.mem_append_left _ h)), gd_V gd_X7_type w h⟩
set_option maxHeartbeats 1000000 in
set_option maxRecDepth 100000 in
theorem c_L_type (ll : Launch) (hst : ll.stackTraces = false) (D : va_G) (ad ro : Nat → Nat) (c : Nat → ClassId) (Z : ZT) (L : LT) (o : Nat) (out : Nat → Int64) {n : Nat} {τ : Tb} {w : List Nat} {st : Int32} {tr : List Nat} (x : Int32) (y : Int32) (hSD : g_SD n τ w st tr Z L) : cYI (S := S4) ll yL_type vsL_type ({ frames := 8, cells := 3, slots := 18, locals := 160 } : Room) D (tysG c) [.ref (ad 0), .int x, .int y, .ref o] (wO ad ro c Z L o out) (fun u => wO u.1 ro c u.2.1 u.2.2.1 o u.2.2.2) (fun r u => u.1 0 = ad 0 ∧ r = nI (k_type n τ x y) ∧ (k_type n τ x y = 0 → u.2.2.2 0 = (v_type τ x y).toInt64 ∧ g_SD n τ w st tr u.2.1 u.2.2.1) ∧ (k_type n τ x y ≠ 0 → g_SD n τ w st tr u.2.1 u.2.2.1)) 3 18 := by
  refine cYI_start (cc := cL_type) (maxL := 5) (hh := [(0, 10, 13, 24), (0, 10, 17, 26)]) RL rfl (by decide +kernel) rfl (Nat.le_of_ble_eq_true rfl) ?_
  intro κ hlκ Y hr E hR hn
  subst hlκ
  have C := Y.1
  show J D κ 0 0 0 [(0, .ref (ad 0)), (1, .int x), (2, .int y), (3, .ref o)] [] (wO ad ro c Z L o out)
  refine j_aload_n C 0 3 dL_type_0 rfl rfl ?_
  refine j_iconst C 1 (v := nI 0) dL_type_1 rfl ?_
  refine j_aload_n C 2 0 dL_type_2 rfl rfl ?_
  refine j_iload_n C 3 1 dL_type_3 rfl rfl ?_
  refine j_iload_n C 4 2 dL_type_4 rfl rfl ?_
  have hnd : (["java/lang/IndexOutOfBoundsException", "java/lang/IllegalStateException"] : List String).Nodup := by decide
  refine j_ycallI (wr := [oC c o out]) (mc := 3) (ms := 18) Y 5 (c_X7_type (jl κ) hst D ad ro c Z L x y hSD) gL_type_X7_type rfl rfl rfl hd_X7_type (by rw [hR]; exact ⟨Nat.le_of_ble_eq_true rfl, Nat.le_of_ble_eq_true rfl⟩) (ci := 7) rfl 0 (wd_o0 ad ro c Z L) ks79 [79] (wO_C _ _ _ _ _ _ _) ks79_nd (wO_R _ _ _ _ _ _ _) rfl ks79_d rfl (Nat.le_of_ble_eq_true rfl) (by rw [hR]; exact ⟨Nat.le_of_ble_eq_true rfl, Nat.le_of_ble_eq_true rfl⟩) dL_type_5 ["java/lang/IndexOutOfBoundsException", "java/lang/IllegalStateException"] hnd rfl (fun j z hz => ?_) (fun E9 u9 h9 => by obtain ⟨⟨i, hi, -⟩, -⟩ := h9; exact ⟨i, hi⟩) (fun i E9 u9 z h9 he hz q9 => ?_) (fun r9 u9 q9 => ?_)
  · rcases j with _ | _ | j
    · obtain rfl : (⟨0, 10, 13, 24⟩ : ExceptionTableEntry) = z := Option.some.inj hz
      exact ⟨_, rfl, by decide, rfl, by decide, C.t (.classLink RL 24 "java/lang/IndexOutOfBoundsException") (mL_type_o _ (by decide +kernel))⟩
    · obtain rfl : (⟨0, 10, 17, 26⟩ : ExceptionTableEntry) = z := Option.some.inj hz
      exact ⟨_, rfl, by decide, rfl, by decide, C.t (.classLink RL 26 "java/lang/IllegalStateException") (mL_type_o _ (by decide +kernel))⟩
    · cases (show (none : Option ExceptionTableEntry) = some z from hz)
  · obtain ⟨⟨i9, hi9, hK9⟩, hsd⟩ := h9
    have hii : i9 = i := (List.getElem?_inj (List.getElem?_eq_some_iff.mp hi9).1 hnd).mp (by rw [hi9, he])
    subst hii
    rcases i9 with _ | _ | j
    · obtain rfl : (⟨0, 10, 13, 24⟩ : ExceptionTableEntry) = z := Option.some.inj hz
      show J D κ _ _ 13 [(0, .ref (ad 0)), (1, .int x), (2, .int y), (3, .ref o)] [.ref q9] ([oC c o out] ++ wd ad ro c u9.1 u9.2)
      refine j_pick ksB ksB_nd (wO_B ad ro c u9.1 u9.2 o out) ?_
      refine j_astore C 13 (lv' := [(4, .ref q9), (0, .ref (ad 0)), (1, .int x), (2, .int y), (3, .ref o)]) dL_type_13 (by rw [hn]; decide) rfl ?_
      refine j_iconst C 15 (v := nI 1) dL_type_15 rfl ?_
      exact j_xireti C hr E (Nat.le_of_ble_eq_true rfl) (Nat.le_of_ble_eq_true rfl) rfl (ad, u9.1, u9.2, out) ⟨rfl, congrArg nI hK9.symm, fun z => absurd (hK9.symm.trans z) (by decide), fun _ => hsd⟩ rfl dL_type_16
    · obtain rfl : (⟨0, 10, 17, 26⟩ : ExceptionTableEntry) = z := Option.some.inj hz
      show J D κ _ _ 17 [(0, .ref (ad 0)), (1, .int x), (2, .int y), (3, .ref o)] [.ref q9] ([oC c o out] ++ wd ad ro c u9.1 u9.2)
      refine j_pick ksB ksB_nd (wO_B ad ro c u9.1 u9.2 o out) ?_
      refine j_astore C 17 (lv' := [(4, .ref q9), (0, .ref (ad 0)), (1, .int x), (2, .int y), (3, .ref o)]) dL_type_17 (by rw [hn]; decide) rfl ?_
      refine j_iconst C 19 (v := nI 2) dL_type_19 rfl ?_
      exact j_xireti C hr E (Nat.le_of_ble_eq_true rfl) (Nat.le_of_ble_eq_true rfl) rfl (ad, u9.1, u9.2, out) ⟨rfl, congrArg nI hK9.symm, fun z => absurd (hK9.symm.trans z) (by decide), fun _ => hsd⟩ rfl dL_type_20
    · cases (show (none : Option ExceptionTableEntry) = some z from hz)
  · obtain ⟨hk0, rfl, hsd⟩ := q9
    refine j_pick ksB ksB_nd (wO_B ad ro c u9.1 u9.2 o out) ?_
    refine j_i2l C 8 (v := (v_type τ x y).toInt64) dL_type_8 rfl ?_
    refine j_last C 9 79 2 (f := out) (wO_o ad ro c u9.1 u9.2 o out) rfl (by decide) (by decide) (wO_s ad ro c u9.1 u9.2 o out _) dL_type_9 ?_
    refine j_goto C 10 21 dL_type_10 (by decide) ?_
    refine j_iconst C 21 (v := nI 0) dL_type_21 rfl ?_
    exact j_xireti C hr E (Nat.le_of_ble_eq_true rfl) (Nat.le_of_ble_eq_true rfl) rfl (ad, u9.1, u9.2, vp_updL out 0 ((v_type τ x y).toInt64)) ⟨rfl, congrArg nI hk0.symm, fun _ => ⟨(vL_same : vp_updL out 0 ((v_type τ x y).toInt64) 0 = (v_type τ x y).toInt64), hsd⟩, fun z => absurd hk0 z⟩ rfl dL_type_22
def vsL_letter_o : List Cond := [.classLink RL 24 "java/lang/IndexOutOfBoundsException"]
set_option maxRecDepth 20000 in
theorem vsL_letter_oin : ∀ w ∈ vsL_letter_o, w ∈ lw_tbl := wsL_mem _ [462] (by decide +kernel)
def vsL_letter : List Cond := .codeWith yL_letter cL_letter 4 (some .int) [(0, 9, 12, 24)] :: (vsL_letter_o ++ (wsV RL 38 RX7 yX7_letter vsX7_letter ++ ([] : List Cond)))
theorem gd_L_letter : ∀ w ∈ vsL_letter, gdW w := gd_cons rfl (gd_app (gd_all (by decide +kernel)) (gd_app (gd_V gd_X7_letter) gd_nil))
set_option maxRecDepth 20000 in
theorem in_L_letter : ∀ w ∈ vsL_letter, w ∈ lw_tbl := in_cons (List.mem_of_getElem? (i := 618) (by decide +kernel)) (in_app vsL_letter_oin (in_app (in_app (wsL_mem _ [619, 620, 621, 53] (by decide +kernel)) in_X7_letter) in_nil))
theorem mL_letter_o : ∀ w ∈ vsL_letter_o, w ∈ vsL_letter := fun w h => List.mem_cons_of_mem _ (List.mem_append_left _ h)
theorem gL_letter_X7_letter : GoodIn vsL_letter (wsV RL 38 RX7 yX7_letter vsX7_letter) := fun w h => ⟨List.mem_cons_of_mem _ (List.mem_append_right _ (List.mem_append_left _ h)), gd_V gd_X7_letter w h⟩
set_option maxHeartbeats 1000000 in
set_option maxRecDepth 100000 in
theorem c_L_letter (ll : Launch) (hst : ll.stackTraces = false) (D : va_G) (ad ro : Nat → Nat) (c : Nat → ClassId) (Z : ZT) (L : LT) (o : Nat) (out : Nat → Int64) {n : Nat} {τ : Tb} {w : List Nat} {st : Int32} {tr : List Nat} (x : Int32) (hSD : g_SD n τ w st tr Z L) : cYI (S := S4) ll yL_letter vsL_letter ({ frames := 7, cells := 1, slots := 6, locals := 106 } : Room) D (tysG c) [.ref (ad 0), .int x, .ref o] (wO ad ro c Z L o out) (fun u => wO u.1 ro c u.2.1 u.2.2.1 o u.2.2.2) (fun r u => u.1 0 = ad 0 ∧ r = nI (k_ix w.length x) ∧ (k_ix w.length x = 0 → u.2.2.2 0 = (nI (g_nx w (cN x))).toInt64 ∧ g_SD n τ w st tr u.2.1 u.2.2.1) ∧ (k_ix w.length x ≠ 0 → g_SD n τ w st tr u.2.1 u.2.2.1)) 1 6 := by
  refine cYI_start (cc := cL_letter) (maxL := 4) (hh := [(0, 9, 12, 24)]) RL rfl (by decide +kernel) rfl (Nat.le_of_ble_eq_true rfl) ?_
  intro κ hlκ Y hr E hR hn
  subst hlκ
  have C := Y.1
  show J D κ 0 0 0 [(0, .ref (ad 0)), (1, .int x), (2, .ref o)] [] (wO ad ro c Z L o out)
  refine j_aload_n C 0 2 dL_letter_0 rfl rfl ?_
  refine j_iconst C 1 (v := nI 0) dL_letter_1 rfl ?_
  refine j_aload_n C 2 0 dL_letter_2 rfl rfl ?_
  refine j_iload_n C 3 1 dL_letter_3 rfl rfl ?_
  have hnd : (["java/lang/IndexOutOfBoundsException"] : List String).Nodup := by decide
  refine j_ycallI (wr := [oC c o out]) (mc := 1) (ms := 6) Y 4 (c_X7_letter (jl κ) hst D ad ro c Z L x hSD) gL_letter_X7_letter rfl rfl rfl hd_X7_letter (by rw [hR]; exact ⟨Nat.le_of_ble_eq_true rfl, Nat.le_of_ble_eq_true rfl⟩) (ci := 7) rfl 0 (wd_o0 ad ro c Z L) ks79 [79] (wO_C _ _ _ _ _ _ _) ks79_nd (wO_R _ _ _ _ _ _ _) rfl ks79_d rfl (Nat.le_of_ble_eq_true rfl) (by rw [hR]; exact ⟨Nat.le_of_ble_eq_true rfl, Nat.le_of_ble_eq_true rfl⟩) dL_letter_4 ["java/lang/IndexOutOfBoundsException"] hnd rfl (fun j z hz => ?_) (fun E9 u9 h9 => by obtain ⟨⟨i, hi, -⟩, -⟩ := h9; exact ⟨i, hi⟩) (fun i E9 u9 z h9 he hz q9 => ?_) (fun r9 u9 q9 => ?_)
  · rcases j with _ | j
    · obtain rfl : (⟨0, 9, 12, 24⟩ : ExceptionTableEntry) = z := Option.some.inj hz
      exact ⟨_, rfl, by decide, rfl, by decide, C.t (.classLink RL 24 "java/lang/IndexOutOfBoundsException") (mL_letter_o _ (by decide +kernel))⟩
    · cases (show (none : Option ExceptionTableEntry) = some z from hz)
  · obtain ⟨⟨i9, hi9, hK9⟩, hsd⟩ := h9
    have hii : i9 = i := (List.getElem?_inj (List.getElem?_eq_some_iff.mp hi9).1 hnd).mp (by rw [hi9, he])
    subst hii
    rcases i9 with _ | j
    · obtain rfl : (⟨0, 9, 12, 24⟩ : ExceptionTableEntry) = z := Option.some.inj hz
      show J D κ _ _ 12 [(0, .ref (ad 0)), (1, .int x), (2, .ref o)] [.ref q9] ([oC c o out] ++ wd ad ro c u9.1 u9.2)
      refine j_pick ksB ksB_nd (wO_B ad ro c u9.1 u9.2 o out) ?_
      refine j_astore_n C 12 (lv' := [(3, .ref q9), (0, .ref (ad 0)), (1, .int x), (2, .ref o)]) dL_letter_12 rfl (by rw [hn]; decide) rfl ?_
      refine j_iconst C 13 (v := nI 1) dL_letter_13 rfl ?_
      exact j_xireti C hr E (Nat.le_of_ble_eq_true rfl) (Nat.le_of_ble_eq_true rfl) rfl (ad, u9.1, u9.2, out) ⟨rfl, congrArg nI hK9.symm, fun z => absurd (hK9.symm.trans z) (by decide), fun _ => hsd⟩ rfl dL_letter_14
    · cases (show (none : Option ExceptionTableEntry) = some z from hz)
  · obtain ⟨hk0, rfl, hsd⟩ := q9
    refine j_pick ksB ksB_nd (wO_B ad ro c u9.1 u9.2 o out) ?_
    refine j_i2l C 7 (v := (nI (g_nx w (cN x))).toInt64) dL_letter_7 rfl ?_
    refine j_last C 8 79 2 (f := out) (wO_o ad ro c u9.1 u9.2 o out) rfl (by decide) (by decide) (wO_s ad ro c u9.1 u9.2 o out _) dL_letter_8 ?_
    refine j_goto C 9 15 dL_letter_9 (by decide) ?_
    refine j_iconst C 15 (v := nI 0) dL_letter_15 rfl ?_
    exact j_xireti C hr E (Nat.le_of_ble_eq_true rfl) (Nat.le_of_ble_eq_true rfl) rfl (ad, u9.1, u9.2, vp_updL out 0 ((nI (g_nx w (cN x))).toInt64)) ⟨rfl, congrArg nI hk0.symm, fun _ => ⟨(vL_same : vp_updL out 0 ((nI (g_nx w (cN x))).toInt64) 0 = (nI (g_nx w (cN x))).toInt64), hsd⟩, fun z => absurd hk0 z⟩ rfl dL_letter_16
def vsL_read_o : List Cond := [.classLink RL 24 "java/lang/IndexOutOfBoundsException", .classLink RL 26 "java/lang/IllegalStateException", .classLink RL 13 "java/lang/IllegalArgumentException"]
set_option maxRecDepth 20000 in
theorem vsL_read_oin : ∀ w ∈ vsL_read_o, w ∈ lw_tbl := wsL_mem _ [462, 463, 339] (by decide +kernel)
def vsL_read : List Cond := .codeWith yL_read cL_read 4 (some .int) [(0, 9, 12, 24), (0, 9, 15, 26), (0, 9, 18, 13)] :: (vsL_read_o ++ (wsV RL 41 RX7 yX7_read vsX7_read ++ ([] : List Cond)))
theorem gd_L_read : ∀ w ∈ vsL_read, gdW w := gd_cons rfl (gd_app (gd_all (by decide +kernel)) (gd_app (gd_V gd_X7_read) gd_nil))
set_option maxRecDepth 20000 in
theorem in_L_read : ∀ w ∈ vsL_read, w ∈ lw_tbl := in_cons (List.mem_of_getElem? (i := 629) (by decide +kernel)) (in_app vsL_read_oin (in_app (in_app (wsL_mem _ [630, 631, 632, 53] (by decide +kernel)) in_X7_read) in_nil))
theorem mL_read_o : ∀ w ∈ vsL_read_o, w ∈ vsL_read := fun w h => List.mem_cons_of_mem _ (List.mem_append_left _ h)
theorem gL_read_X7_read : GoodIn vsL_read (wsV RL 41 RX7 yX7_read vsX7_read) := fun w h => ⟨List.mem_cons_of_mem _ (List.mem_append_right _ (List.mem_append_left _ h)), gd_V gd_X7_read w h⟩
set_option maxHeartbeats 1000000 in
set_option maxRecDepth 100000 in
theorem c_L_read (ll : Launch) (hst : ll.stackTraces = false) (D : va_G) (ad ro : Nat → Nat) (c : Nat → ClassId) (Z : ZT) (L : LT) (o : Nat) (out : Nat → Int64) {n : Nat} {τ : Tb} {w : List Nat} {st : Int32} {tr : List Nat} (x : Int32) (hSD : g_SD n τ w st tr Z L) : cYI (S := S4) ll yL_read vsL_read ({ frames := 8, cells := 3, slots := 18, locals := 159 } : Room) D (tysG c) [.ref (ad 0), .int x, .ref o] (wO ad ro c Z L o out) (fun u => wO u.1 ro c u.2.1 u.2.2.1 o u.2.2.2) (fun r u => u.1 0 = ad 0 ∧ r = nI (k_read n τ w x) ∧ (k_read n τ w x = 0 → u.2.2.2 0 = (nI (g_RD τ (cN x) w).2.2.1).toInt64 ∧ g_SD n τ w (-1) (g_RD τ (cN x) w).2.2.2 u.2.1 u.2.2.1) ∧ (k_read n τ w x ≠ 0 → g_SD n τ w (if k_read n τ w x = 3 then nI (g_RD τ (cN x) w).2.1 else st) tr u.2.1 u.2.2.1)) 3 18 := by
  refine cYI_start (cc := cL_read) (maxL := 4) (hh := [(0, 9, 12, 24), (0, 9, 15, 26), (0, 9, 18, 13)]) RL rfl (by decide +kernel) rfl (Nat.le_of_ble_eq_true rfl) ?_
  intro κ hlκ Y hr E hR hn
  subst hlκ
  have C := Y.1
  show J D κ 0 0 0 [(0, .ref (ad 0)), (1, .int x), (2, .ref o)] [] (wO ad ro c Z L o out)
  refine j_aload_n C 0 2 dL_read_0 rfl rfl ?_
  refine j_iconst C 1 (v := nI 0) dL_read_1 rfl ?_
  refine j_aload_n C 2 0 dL_read_2 rfl rfl ?_
  refine j_iload_n C 3 1 dL_read_3 rfl rfl ?_
  have hnd : (["java/lang/IndexOutOfBoundsException", "java/lang/IllegalStateException", "java/lang/IllegalArgumentException"] : List String).Nodup := by decide
  refine j_ycallI (wr := [oC c o out]) (mc := 3) (ms := 18) Y 4 (c_X7_read (jl κ) hst D ad ro c Z L x hSD) gL_read_X7_read rfl rfl rfl hd_X7_read (by rw [hR]; exact ⟨Nat.le_of_ble_eq_true rfl, Nat.le_of_ble_eq_true rfl⟩) (ci := 7) rfl 0 (wd_o0 ad ro c Z L) ks79 [79] (wO_C _ _ _ _ _ _ _) ks79_nd (wO_R _ _ _ _ _ _ _) rfl ks79_d rfl (Nat.le_of_ble_eq_true rfl) (by rw [hR]; exact ⟨Nat.le_of_ble_eq_true rfl, Nat.le_of_ble_eq_true rfl⟩) dL_read_4 ["java/lang/IndexOutOfBoundsException", "java/lang/IllegalStateException", "java/lang/IllegalArgumentException"] hnd rfl (fun j z hz => ?_) (fun E9 u9 h9 => by obtain ⟨⟨i, hi, -⟩, -⟩ := h9; exact ⟨i, hi⟩) (fun i E9 u9 z h9 he hz q9 => ?_) (fun r9 u9 q9 => ?_)
  · rcases j with _ | _ | _ | j
    · obtain rfl : (⟨0, 9, 12, 24⟩ : ExceptionTableEntry) = z := Option.some.inj hz
      exact ⟨_, rfl, by decide, rfl, by decide, C.t (.classLink RL 24 "java/lang/IndexOutOfBoundsException") (mL_read_o _ (by decide +kernel))⟩
    · obtain rfl : (⟨0, 9, 15, 26⟩ : ExceptionTableEntry) = z := Option.some.inj hz
      exact ⟨_, rfl, by decide, rfl, by decide, C.t (.classLink RL 26 "java/lang/IllegalStateException") (mL_read_o _ (by decide +kernel))⟩
    · obtain rfl : (⟨0, 9, 18, 13⟩ : ExceptionTableEntry) = z := Option.some.inj hz
      exact ⟨_, rfl, by decide, rfl, by decide, C.t (.classLink RL 13 "java/lang/IllegalArgumentException") (mL_read_o _ (by decide +kernel))⟩
    · cases (show (none : Option ExceptionTableEntry) = some z from hz)
  · obtain ⟨⟨i9, hi9, hK9⟩, hsd⟩ := h9
    have hii : i9 = i := (List.getElem?_inj (List.getElem?_eq_some_iff.mp hi9).1 hnd).mp (by rw [hi9, he])
    subst hii
    rcases i9 with _ | _ | _ | j
    · obtain rfl : (⟨0, 9, 12, 24⟩ : ExceptionTableEntry) = z := Option.some.inj hz
      show J D κ _ _ 12 [(0, .ref (ad 0)), (1, .int x), (2, .ref o)] [.ref q9] ([oC c o out] ++ wd ad ro c u9.1 u9.2)
      refine j_pick ksB ksB_nd (wO_B ad ro c u9.1 u9.2 o out) ?_
      refine j_astore_n C 12 (lv' := [(3, .ref q9), (0, .ref (ad 0)), (1, .int x), (2, .ref o)]) dL_read_12 rfl (by rw [hn]; decide) rfl ?_
      refine j_iconst C 13 (v := nI 1) dL_read_13 rfl ?_
      exact j_xireti C hr E (Nat.le_of_ble_eq_true rfl) (Nat.le_of_ble_eq_true rfl) rfl (ad, u9.1, u9.2, out) ⟨rfl, congrArg nI hK9.symm, fun z => absurd (hK9.symm.trans z) (by decide), fun _ => hsd⟩ rfl dL_read_14
    · obtain rfl : (⟨0, 9, 15, 26⟩ : ExceptionTableEntry) = z := Option.some.inj hz
      show J D κ _ _ 15 [(0, .ref (ad 0)), (1, .int x), (2, .ref o)] [.ref q9] ([oC c o out] ++ wd ad ro c u9.1 u9.2)
      refine j_pick ksB ksB_nd (wO_B ad ro c u9.1 u9.2 o out) ?_
      refine j_astore_n C 15 (lv' := [(3, .ref q9), (0, .ref (ad 0)), (1, .int x), (2, .ref o)]) dL_read_15 rfl (by rw [hn]; decide) rfl ?_
      refine j_iconst C 16 (v := nI 2) dL_read_16 rfl ?_
      exact j_xireti C hr E (Nat.le_of_ble_eq_true rfl) (Nat.le_of_ble_eq_true rfl) rfl (ad, u9.1, u9.2, out) ⟨rfl, congrArg nI hK9.symm, fun z => absurd (hK9.symm.trans z) (by decide), fun _ => hsd⟩ rfl dL_read_17
    · obtain rfl : (⟨0, 9, 18, 13⟩ : ExceptionTableEntry) = z := Option.some.inj hz
      show J D κ _ _ 18 [(0, .ref (ad 0)), (1, .int x), (2, .ref o)] [.ref q9] ([oC c o out] ++ wd ad ro c u9.1 u9.2)
      refine j_pick ksB ksB_nd (wO_B ad ro c u9.1 u9.2 o out) ?_
      refine j_astore_n C 18 (lv' := [(3, .ref q9), (0, .ref (ad 0)), (1, .int x), (2, .ref o)]) dL_read_18 rfl (by rw [hn]; decide) rfl ?_
      refine j_iconst C 19 (v := nI 3) dL_read_19 rfl ?_
      exact j_xireti C hr E (Nat.le_of_ble_eq_true rfl) (Nat.le_of_ble_eq_true rfl) rfl (ad, u9.1, u9.2, out) ⟨rfl, congrArg nI hK9.symm, fun z => absurd (hK9.symm.trans z) (by decide), fun _ => hsd⟩ rfl dL_read_20
    · cases (show (none : Option ExceptionTableEntry) = some z from hz)
  · obtain ⟨hk0, rfl, had, hsd⟩ := q9
    refine j_pick ksB ksB_nd (wO_B u9.1 ro c u9.2.1 u9.2.2 o out) ?_
    refine j_i2l C 7 (v := (nI (g_RD τ (cN x) w).2.2.1).toInt64) dL_read_7 rfl ?_
    refine j_last C 8 79 2 (f := out) (wO_o u9.1 ro c u9.2.1 u9.2.2 o out) rfl (by decide) (by decide) (wO_s u9.1 ro c u9.2.1 u9.2.2 o out _) dL_read_8 ?_
    refine j_goto C 9 21 dL_read_9 (by decide) ?_
    refine j_iconst C 21 (v := nI 0) dL_read_21 rfl ?_
    exact j_xireti C hr E (Nat.le_of_ble_eq_true rfl) (Nat.le_of_ble_eq_true rfl) rfl (u9.1, u9.2.1, u9.2.2, vp_updL out 0 ((nI (g_RD τ (cN x) w).2.2.1).toInt64)) ⟨by rw [had]; rfl, congrArg nI hk0.symm, fun _ => ⟨(vL_same : vp_updL out 0 ((nI (g_RD τ (cN x) w).2.2.1).toInt64) 0 = (nI (g_RD τ (cN x) w).2.2.1).toInt64), hsd⟩, fun z => absurd hk0 z⟩ rfl dL_read_22
def vsL_step_o : List Cond := [.classLink RL 24 "java/lang/IndexOutOfBoundsException"]
set_option maxRecDepth 20000 in
theorem vsL_step_oin : ∀ w ∈ vsL_step_o, w ∈ lw_tbl := wsL_mem _ [462] (by decide +kernel)
def vsL_step : List Cond := .codeWith yL_step cL_step 4 (some .int) [(0, 9, 12, 24)] :: (vsL_step_o ++ (wsV RL 44 RX7 yX7_step vsX7_step ++ ([] : List Cond)))
theorem gd_L_step : ∀ w ∈ vsL_step, gdW w := gd_cons rfl (gd_app (gd_all (by decide +kernel)) (gd_app (gd_V gd_X7_step) gd_nil))
set_option maxRecDepth 20000 in
theorem in_L_step : ∀ w ∈ vsL_step, w ∈ lw_tbl := in_cons (List.mem_of_getElem? (i := 692) (by decide +kernel)) (in_app vsL_step_oin (in_app (in_app (wsL_mem _ [693, 694, 695, 53] (by decide +kernel)) in_X7_step) in_nil))
theorem mL_step_o : ∀ w ∈ vsL_step_o, w ∈ vsL_step := fun w h => List.mem_cons_of_mem _ (List.mem_append_left _ h)
theorem gL_step_X7_step : GoodIn vsL_step (wsV RL 44 RX7 yX7_step vsX7_step) := fun w h => ⟨List.mem_cons_of_mem _ (List.mem_append_right _ (List.mem_append_left _ h)), gd_V gd_X7_step w h⟩
set_option maxHeartbeats 1000000 in
set_option maxRecDepth 100000 in
theorem c_L_step (ll : Launch) (hst : ll.stackTraces = false) (D : va_G) (ad ro : Nat → Nat) (c : Nat → ClassId) (Z : ZT) (L : LT) (o : Nat) (out : Nat → Int64) {n : Nat} {τ : Tb} {w : List Nat} {st : Int32} {tr : List Nat} (x : Int32) (hSD : g_SD n τ w st tr Z L) : cYI (S := S4) ll yL_step vsL_step ({ frames := 7, cells := 1, slots := 6, locals := 106 } : Room) D (tysG c) [.ref (ad 0), .int x, .ref o] (wO ad ro c Z L o out) (fun u => wO u.1 ro c u.2.1 u.2.2.1 o u.2.2.2) (fun r u => u.1 0 = ad 0 ∧ r = nI (k_ix tr.length x) ∧ (k_ix tr.length x = 0 → u.2.2.2 0 = (nI (tr.getD (cN x) 0)).toInt64 ∧ g_SD n τ w st tr u.2.1 u.2.2.1) ∧ (k_ix tr.length x ≠ 0 → g_SD n τ w st tr u.2.1 u.2.2.1)) 1 6 := by
  refine cYI_start (cc := cL_step) (maxL := 4) (hh := [(0, 9, 12, 24)]) RL rfl (by decide +kernel) rfl (Nat.le_of_ble_eq_true rfl) ?_
  intro κ hlκ Y hr E hR hn
  subst hlκ
  have C := Y.1
  show J D κ 0 0 0 [(0, .ref (ad 0)), (1, .int x), (2, .ref o)] [] (wO ad ro c Z L o out)
  refine j_aload_n C 0 2 dL_step_0 rfl rfl ?_
  refine j_iconst C 1 (v := nI 0) dL_step_1 rfl ?_
  refine j_aload_n C 2 0 dL_step_2 rfl rfl ?_
  refine j_iload_n C 3 1 dL_step_3 rfl rfl ?_
  have hnd : (["java/lang/IndexOutOfBoundsException"] : List String).Nodup := by decide
  refine j_ycallI (wr := [oC c o out]) (mc := 1) (ms := 6) Y 4 (c_X7_step (jl κ) hst D ad ro c Z L x hSD) gL_step_X7_step rfl rfl rfl hd_X7_step (by rw [hR]; exact ⟨Nat.le_of_ble_eq_true rfl, Nat.le_of_ble_eq_true rfl⟩) (ci := 7) rfl 0 (wd_o0 ad ro c Z L) ks79 [79] (wO_C _ _ _ _ _ _ _) ks79_nd (wO_R _ _ _ _ _ _ _) rfl ks79_d rfl (Nat.le_of_ble_eq_true rfl) (by rw [hR]; exact ⟨Nat.le_of_ble_eq_true rfl, Nat.le_of_ble_eq_true rfl⟩) dL_step_4 ["java/lang/IndexOutOfBoundsException"] hnd rfl (fun j z hz => ?_) (fun E9 u9 h9 => by obtain ⟨⟨i, hi, -⟩, -⟩ := h9; exact ⟨i, hi⟩) (fun i E9 u9 z h9 he hz q9 => ?_) (fun r9 u9 q9 => ?_)
  · rcases j with _ | j
    · obtain rfl : (⟨0, 9, 12, 24⟩ : ExceptionTableEntry) = z := Option.some.inj hz
      exact ⟨_, rfl, by decide, rfl, by decide, C.t (.classLink RL 24 "java/lang/IndexOutOfBoundsException") (mL_step_o _ (by decide +kernel))⟩
    · cases (show (none : Option ExceptionTableEntry) = some z from hz)
  · obtain ⟨⟨i9, hi9, hK9⟩, hsd⟩ := h9
    have hii : i9 = i := (List.getElem?_inj (List.getElem?_eq_some_iff.mp hi9).1 hnd).mp (by rw [hi9, he])
    subst hii
    rcases i9 with _ | j
    · obtain rfl : (⟨0, 9, 12, 24⟩ : ExceptionTableEntry) = z := Option.some.inj hz
      show J D κ _ _ 12 [(0, .ref (ad 0)), (1, .int x), (2, .ref o)] [.ref q9] ([oC c o out] ++ wd ad ro c u9.1 u9.2)
      refine j_pick ksB ksB_nd (wO_B ad ro c u9.1 u9.2 o out) ?_
      refine j_astore_n C 12 (lv' := [(3, .ref q9), (0, .ref (ad 0)), (1, .int x), (2, .ref o)]) dL_step_12 rfl (by rw [hn]; decide) rfl ?_
      refine j_iconst C 13 (v := nI 1) dL_step_13 rfl ?_
      exact j_xireti C hr E (Nat.le_of_ble_eq_true rfl) (Nat.le_of_ble_eq_true rfl) rfl (ad, u9.1, u9.2, out) ⟨rfl, congrArg nI hK9.symm, fun z => absurd (hK9.symm.trans z) (by decide), fun _ => hsd⟩ rfl dL_step_14
    · cases (show (none : Option ExceptionTableEntry) = some z from hz)
  · obtain ⟨hk0, rfl, hsd⟩ := q9
    refine j_pick ksB ksB_nd (wO_B ad ro c u9.1 u9.2 o out) ?_
    refine j_i2l C 7 (v := (nI (tr.getD (cN x) 0)).toInt64) dL_step_7 rfl ?_
    refine j_last C 8 79 2 (f := out) (wO_o ad ro c u9.1 u9.2 o out) rfl (by decide) (by decide) (wO_s ad ro c u9.1 u9.2 o out _) dL_step_8 ?_
    refine j_goto C 9 15 dL_step_9 (by decide) ?_
    refine j_iconst C 15 (v := nI 0) dL_step_15 rfl ?_
    exact j_xireti C hr E (Nat.le_of_ble_eq_true rfl) (Nat.le_of_ble_eq_true rfl) rfl (ad, u9.1, u9.2, vp_updL out 0 ((nI (tr.getD (cN x) 0)).toInt64)) ⟨rfl, congrArg nI hk0.symm, fun _ => ⟨(vL_same : vp_updL out 0 ((nI (tr.getD (cN x) 0)).toInt64) 0 = (nI (tr.getD (cN x) 0)).toInt64), hsd⟩, fun z => absurd hk0 z⟩ rfl dL_step_16
def vsL_count_o : List Cond := [.classLink RL 24 "java/lang/IndexOutOfBoundsException", .classLink RL 26 "java/lang/IllegalStateException", .classLink RL 13 "java/lang/IllegalArgumentException"]
set_option maxRecDepth 20000 in
theorem vsL_count_oin : ∀ w ∈ vsL_count_o, w ∈ lw_tbl := wsL_mem _ [462, 463, 339] (by decide +kernel)
def vsL_count : List Cond := .codeWith yL_count cL_count 5 (some .int) [(0, 9, 12, 24), (0, 9, 16, 26), (0, 9, 20, 13)] :: (vsL_count_o ++ (wsV RL 47 RX7 yX7_count vsX7_count ++ ([] : List Cond)))
theorem gd_L_count : ∀ w ∈ vsL_count, gdW w := gd_cons rfl (gd_app (gd_all (by decide +kernel)) (gd_app (gd_V gd_X7_count) gd_nil))
set_option maxRecDepth 20000 in
theorem in_L_count : ∀ w ∈ vsL_count, w ∈ lw_tbl := in_cons (List.mem_of_getElem? (i := 703) (by decide +kernel)) (in_app vsL_count_oin (in_app (in_app (wsL_mem _ [704, 705, 706, 53] (by decide +kernel)) in_X7_count) in_nil))
theorem mL_count_o : ∀ w ∈ vsL_count_o, w ∈ vsL_count := fun w h => List.mem_cons_of_mem _ (List.mem_append_left _ h)
theorem gL_count_X7_count : GoodIn vsL_count (wsV RL 47 RX7 yX7_count vsX7_count) := fun w h => ⟨List.mem_cons_of_mem _ (List.mem_append_right _ (List.mem_append_left _ h)), gd_V gd_X7_count w h⟩
set_option maxHeartbeats 1000000 in
set_option maxRecDepth 100000 in
theorem c_L_count (ll : Launch) (hst : ll.stackTraces = false) (D : va_G) (ad ro : Nat → Nat) (c : Nat → ClassId) (Z : ZT) (L : LT) (o : Nat) (out : Nat → Int64) {n : Nat} {τ : Tb} {w : List Nat} {st : Int32} {tr : List Nat} (x : Int32) (y : Int32) (hSD : g_SD n τ w st tr Z L) : cYI (S := S4) ll yL_count vsL_count ({ frames := 9, cells := 3, slots := 18, locals := 182 } : Room) D (tysG c) [.ref (ad 0), .int x, .int y, .ref o] (wO ad ro c Z L o out) (fun u => wO u.1 ro c u.2.1 u.2.2.1 o u.2.2.2) (fun r u => u.1 0 = ad 0 ∧ r = nI (k_count n τ x y) ∧ (k_count n τ x y = 0 → u.2.2.2 0 = lN (g_c τ (cN x) (cN x) (cN y)) ∧ g_SD n τ w st tr u.2.1 u.2.2.1) ∧ (k_count n τ x y ≠ 0 → g_SD n τ w st tr u.2.1 u.2.2.1)) 3 18 := by
  refine cYI_start (cc := cL_count) (maxL := 5) (hh := [(0, 9, 12, 24), (0, 9, 16, 26), (0, 9, 20, 13)]) RL rfl (by decide +kernel) rfl (Nat.le_of_ble_eq_true rfl) ?_
  intro κ hlκ Y hr E hR hn
  subst hlκ
  have C := Y.1
  show J D κ 0 0 0 [(0, .ref (ad 0)), (1, .int x), (2, .int y), (3, .ref o)] [] (wO ad ro c Z L o out)
  refine j_aload_n C 0 3 dL_count_0 rfl rfl ?_
  refine j_iconst C 1 (v := nI 0) dL_count_1 rfl ?_
  refine j_aload_n C 2 0 dL_count_2 rfl rfl ?_
  refine j_iload_n C 3 1 dL_count_3 rfl rfl ?_
  refine j_iload_n C 4 2 dL_count_4 rfl rfl ?_
  have hnd : (["java/lang/IndexOutOfBoundsException", "java/lang/IllegalStateException", "java/lang/IllegalArgumentException"] : List String).Nodup := by decide
  refine j_ycallL (wr := [oC c o out]) (mc := 3) (ms := 18) Y 5 (c_X7_count (jl κ) hst D ad ro c Z L x y hSD) gL_count_X7_count rfl rfl rfl hd_X7_count (by rw [hR]; exact ⟨Nat.le_of_ble_eq_true rfl, Nat.le_of_ble_eq_true rfl⟩) (ci := 7) rfl 0 (wd_o0 ad ro c Z L) ks79 [79] (wO_C _ _ _ _ _ _ _) ks79_nd (wO_R _ _ _ _ _ _ _) rfl ks79_d rfl (Nat.le_of_ble_eq_true rfl) (by rw [hR]; exact ⟨Nat.le_of_ble_eq_true rfl, Nat.le_of_ble_eq_true rfl⟩) dL_count_5 ["java/lang/IndexOutOfBoundsException", "java/lang/IllegalStateException", "java/lang/IllegalArgumentException"] hnd rfl (fun j z hz => ?_) (fun E9 u9 h9 => by obtain ⟨⟨i, hi, -⟩, -⟩ := h9; exact ⟨i, hi⟩) (fun i E9 u9 z h9 he hz q9 => ?_) (fun r9 u9 q9 => ?_)
  · rcases j with _ | _ | _ | j
    · obtain rfl : (⟨0, 9, 12, 24⟩ : ExceptionTableEntry) = z := Option.some.inj hz
      exact ⟨_, rfl, by decide, rfl, by decide, C.t (.classLink RL 24 "java/lang/IndexOutOfBoundsException") (mL_count_o _ (by decide +kernel))⟩
    · obtain rfl : (⟨0, 9, 16, 26⟩ : ExceptionTableEntry) = z := Option.some.inj hz
      exact ⟨_, rfl, by decide, rfl, by decide, C.t (.classLink RL 26 "java/lang/IllegalStateException") (mL_count_o _ (by decide +kernel))⟩
    · obtain rfl : (⟨0, 9, 20, 13⟩ : ExceptionTableEntry) = z := Option.some.inj hz
      exact ⟨_, rfl, by decide, rfl, by decide, C.t (.classLink RL 13 "java/lang/IllegalArgumentException") (mL_count_o _ (by decide +kernel))⟩
    · cases (show (none : Option ExceptionTableEntry) = some z from hz)
  · obtain ⟨⟨i9, hi9, hK9⟩, hsd⟩ := h9
    have hii : i9 = i := (List.getElem?_inj (List.getElem?_eq_some_iff.mp hi9).1 hnd).mp (by rw [hi9, he])
    subst hii
    rcases i9 with _ | _ | _ | j
    · obtain rfl : (⟨0, 9, 12, 24⟩ : ExceptionTableEntry) = z := Option.some.inj hz
      show J D κ _ _ 12 [(0, .ref (ad 0)), (1, .int x), (2, .int y), (3, .ref o)] [.ref q9] ([oC c o out] ++ wd ad ro c u9.1 u9.2)
      refine j_pick ksB ksB_nd (wO_B ad ro c u9.1 u9.2 o out) ?_
      refine j_astore C 12 (lv' := [(4, .ref q9), (0, .ref (ad 0)), (1, .int x), (2, .int y), (3, .ref o)]) dL_count_12 (by rw [hn]; decide) rfl ?_
      refine j_iconst C 14 (v := nI 1) dL_count_14 rfl ?_
      exact j_xireti C hr E (Nat.le_of_ble_eq_true rfl) (Nat.le_of_ble_eq_true rfl) rfl (ad, u9.1, u9.2, out) ⟨rfl, congrArg nI hK9.symm, fun z => absurd (hK9.symm.trans z) (by decide), fun _ => hsd⟩ rfl dL_count_15
    · obtain rfl : (⟨0, 9, 16, 26⟩ : ExceptionTableEntry) = z := Option.some.inj hz
      show J D κ _ _ 16 [(0, .ref (ad 0)), (1, .int x), (2, .int y), (3, .ref o)] [.ref q9] ([oC c o out] ++ wd ad ro c u9.1 u9.2)
      refine j_pick ksB ksB_nd (wO_B ad ro c u9.1 u9.2 o out) ?_
      refine j_astore C 16 (lv' := [(4, .ref q9), (0, .ref (ad 0)), (1, .int x), (2, .int y), (3, .ref o)]) dL_count_16 (by rw [hn]; decide) rfl ?_
      refine j_iconst C 18 (v := nI 2) dL_count_18 rfl ?_
      exact j_xireti C hr E (Nat.le_of_ble_eq_true rfl) (Nat.le_of_ble_eq_true rfl) rfl (ad, u9.1, u9.2, out) ⟨rfl, congrArg nI hK9.symm, fun z => absurd (hK9.symm.trans z) (by decide), fun _ => hsd⟩ rfl dL_count_19
    · obtain rfl : (⟨0, 9, 20, 13⟩ : ExceptionTableEntry) = z := Option.some.inj hz
      show J D κ _ _ 20 [(0, .ref (ad 0)), (1, .int x), (2, .int y), (3, .ref o)] [.ref q9] ([oC c o out] ++ wd ad ro c u9.1 u9.2)
      refine j_pick ksB ksB_nd (wO_B ad ro c u9.1 u9.2 o out) ?_
      refine j_astore C 20 (lv' := [(4, .ref q9), (0, .ref (ad 0)), (1, .int x), (2, .int y), (3, .ref o)]) dL_count_20 (by rw [hn]; decide) rfl ?_
      refine j_iconst C 22 (v := nI 3) dL_count_22 rfl ?_
      exact j_xireti C hr E (Nat.le_of_ble_eq_true rfl) (Nat.le_of_ble_eq_true rfl) rfl (ad, u9.1, u9.2, out) ⟨rfl, congrArg nI hK9.symm, fun z => absurd (hK9.symm.trans z) (by decide), fun _ => hsd⟩ rfl dL_count_23
    · cases (show (none : Option ExceptionTableEntry) = some z from hz)
  · obtain ⟨hk0, rfl, hsd⟩ := q9
    refine j_pick ksB ksB_nd (wO_B ad ro c u9.1 u9.2 o out) ?_
    refine j_last C 8 79 2 (f := out) (wO_o ad ro c u9.1 u9.2 o out) rfl (by decide) (by decide) (wO_s ad ro c u9.1 u9.2 o out _) dL_count_8 ?_
    refine j_goto C 9 24 dL_count_9 (by decide) ?_
    refine j_iconst C 24 (v := nI 0) dL_count_24 rfl ?_
    exact j_xireti C hr E (Nat.le_of_ble_eq_true rfl) (Nat.le_of_ble_eq_true rfl) rfl (ad, u9.1, u9.2, vp_updL out 0 (lN (g_c τ (cN x) (cN x) (cN y)))) ⟨rfl, congrArg nI hk0.symm, fun _ => ⟨(vL_same : vp_updL out 0 (lN (g_c τ (cN x) (cN x) (cN y))) 0 = lN (g_c τ (cN x) (cN x) (cN y))), hsd⟩, fun z => absurd hk0 z⟩ rfl dL_count_25
def vsL_find_o : List Cond := [.classLink RL 24 "java/lang/IndexOutOfBoundsException", .classLink RL 26 "java/lang/IllegalStateException", .classLink RL 13 "java/lang/IllegalArgumentException", .classLink RL 55 "java/util/NoSuchElementException"]
set_option maxRecDepth 20000 in
theorem vsL_find_oin : ∀ w ∈ vsL_find_o, w ∈ lw_tbl := wsL_mem _ [462, 463, 339, 747] (by decide +kernel)
def vsL_find : List Cond := .codeWith yL_find cL_find 6 (some .int) [(0, 7, 10, 24), (0, 7, 14, 26), (0, 7, 18, 13), (0, 7, 22, 55)] :: (vsL_find_o ++ (wsV RL 51 RX7 yX7_find vsX7_find ++ ([] : List Cond)))
theorem gd_L_find : ∀ w ∈ vsL_find, gdW w := gd_cons rfl (gd_app (gd_all (by decide +kernel)) (gd_app (gd_V gd_X7_find) gd_nil))
set_option maxRecDepth 20000 in
theorem in_L_find : ∀ w ∈ vsL_find, w ∈ lw_tbl := in_cons (List.mem_of_getElem? (i := 746) (by decide +kernel)) (in_app vsL_find_oin (in_app (in_app (wsL_mem _ [748, 749, 750, 53] (by decide +kernel)) in_X7_find) in_nil))
theorem mL_find_o : ∀ w ∈ vsL_find_o, w ∈ vsL_find := fun w h => List.mem_cons_of_mem _ (List.mem_append_left _ h)
theorem gL_find_X7_find : GoodIn vsL_find (wsV RL 51 RX7 yX7_find vsX7_find) := fun w h => ⟨List.mem_cons_of_mem _ (List.mem_append_right _ (List.mem_append_left _ h)), gd_V gd_X7_find w h⟩
set_option maxHeartbeats 1000000 in
set_option maxRecDepth 100000 in
theorem c_L_find (ll : Launch) (hst : ll.stackTraces = false) (D : va_G) (ad ro : Nat → Nat) (c : Nat → ClassId) (Z : ZT) (L : LT)  {n : Nat} {τ : Tb} {w : List Nat} {st : Int32} {tr : List Nat} (x : Int32) (y : Int32) (l : Int64) (hSD : g_SD n τ w st tr Z L) : cYI (S := ZT × LT) ll yL_find vsL_find ({ frames := 9, cells := 4, slots := 24, locals := 184 } : Room) D (tysG c) [.ref (ad 0), .int x, .int y, .long l] (wd ad ro c Z L) (fun u => wd ad ro c u.1 u.2) (fun r u => r = nI (k_find n τ x y l) ∧ (k_find n τ x y l = 0 → g_SD n τ (w_find τ x y l) st tr u.1 u.2) ∧ (k_find n τ x y l ≠ 0 → g_SD n τ w st tr u.1 u.2)) 4 24 := by
  refine cYI_start (cc := cL_find) (maxL := 6) (hh := [(0, 7, 10, 24), (0, 7, 14, 26), (0, 7, 18, 13), (0, 7, 22, 55)]) RL rfl (by decide +kernel) rfl (Nat.le_of_ble_eq_true rfl) ?_
  intro κ hlκ Y hr E hR hn
  subst hlκ
  have C := Y.1
  show J D κ 0 0 0 [(0, .ref (ad 0)), (1, .int x), (2, .int y), (3, .long l)] [] (wd ad ro c Z L)
  refine j_aload_n C 0 0 dL_find_0 rfl rfl ?_
  refine j_iload_n C 1 1 dL_find_1 rfl rfl ?_
  refine j_iload_n C 2 2 dL_find_2 rfl rfl ?_
  refine j_lload_n C 3 3 dL_find_3 rfl rfl ?_
  have hnd : (["java/lang/IndexOutOfBoundsException", "java/lang/IllegalStateException", "java/lang/IllegalArgumentException", "java/util/NoSuchElementException"] : List String).Nodup := by decide
  refine j_ycallV (wr := []) (mc := 4) (ms := 24) Y 4 (c_X7_find (jl κ) hst D ad ro c Z L x y l hSD) gL_find_X7_find rfl rfl rfl hd_X7_find (by rw [hR]; exact ⟨Nat.le_of_ble_eq_true rfl, Nat.le_of_ble_eq_true rfl⟩) (ci := 7) rfl 0 (wd_o0 ad ro c Z L) ks79 [] (wd_C _ _ _ _ _) ks79_nd rfl rfl (fun i h => nomatch h) rfl (Nat.le_of_ble_eq_true rfl) (by rw [hR]; exact ⟨Nat.le_of_ble_eq_true rfl, Nat.le_of_ble_eq_true rfl⟩) dL_find_4 ["java/lang/IndexOutOfBoundsException", "java/lang/IllegalStateException", "java/lang/IllegalArgumentException", "java/util/NoSuchElementException"] hnd rfl (fun j z hz => ?_) (fun E9 u9 h9 => by obtain ⟨⟨i, hi, -⟩, -⟩ := h9; exact ⟨i, hi⟩) (fun i E9 u9 z h9 he hz q9 => ?_) (fun u9 q9 => ?_)
  · rcases j with _ | _ | _ | _ | j
    · obtain rfl : (⟨0, 7, 10, 24⟩ : ExceptionTableEntry) = z := Option.some.inj hz
      exact ⟨_, rfl, by decide, rfl, by decide, C.t (.classLink RL 24 "java/lang/IndexOutOfBoundsException") (mL_find_o _ (by decide +kernel))⟩
    · obtain rfl : (⟨0, 7, 14, 26⟩ : ExceptionTableEntry) = z := Option.some.inj hz
      exact ⟨_, rfl, by decide, rfl, by decide, C.t (.classLink RL 26 "java/lang/IllegalStateException") (mL_find_o _ (by decide +kernel))⟩
    · obtain rfl : (⟨0, 7, 18, 13⟩ : ExceptionTableEntry) = z := Option.some.inj hz
      exact ⟨_, rfl, by decide, rfl, by decide, C.t (.classLink RL 13 "java/lang/IllegalArgumentException") (mL_find_o _ (by decide +kernel))⟩
    · obtain rfl : (⟨0, 7, 22, 55⟩ : ExceptionTableEntry) = z := Option.some.inj hz
      exact ⟨_, rfl, by decide, rfl, by decide, C.t (.classLink RL 55 "java/util/NoSuchElementException") (mL_find_o _ (by decide +kernel))⟩
    · cases (show (none : Option ExceptionTableEntry) = some z from hz)
  · obtain ⟨⟨i9, hi9, hK9⟩, hsd⟩ := h9
    have hii : i9 = i := (List.getElem?_inj (List.getElem?_eq_some_iff.mp hi9).1 hnd).mp (by rw [hi9, he])
    subst hii
    rcases i9 with _ | _ | _ | _ | j
    · obtain rfl : (⟨0, 7, 10, 24⟩ : ExceptionTableEntry) = z := Option.some.inj hz
      show J D κ _ _ 10 [(0, .ref (ad 0)), (1, .int x), (2, .int y), (3, .long l)] [.ref q9] ([] ++ wd ad ro c u9.1 u9.2)
      refine j_astore C 10 (lv' := [(5, .ref q9), (0, .ref (ad 0)), (1, .int x), (2, .int y), (3, .long l)]) dL_find_10 (by rw [hn]; decide) rfl ?_
      refine j_iconst C 12 (v := nI 1) dL_find_12 rfl ?_
      exact j_xireti C hr E (Nat.le_of_ble_eq_true rfl) (Nat.le_of_ble_eq_true rfl) rfl (u9.1, u9.2) ⟨congrArg nI hK9.symm, fun z => absurd (hK9.symm.trans z) (by decide), fun _ => hsd⟩ rfl dL_find_13
    · obtain rfl : (⟨0, 7, 14, 26⟩ : ExceptionTableEntry) = z := Option.some.inj hz
      show J D κ _ _ 14 [(0, .ref (ad 0)), (1, .int x), (2, .int y), (3, .long l)] [.ref q9] ([] ++ wd ad ro c u9.1 u9.2)
      refine j_astore C 14 (lv' := [(5, .ref q9), (0, .ref (ad 0)), (1, .int x), (2, .int y), (3, .long l)]) dL_find_14 (by rw [hn]; decide) rfl ?_
      refine j_iconst C 16 (v := nI 2) dL_find_16 rfl ?_
      exact j_xireti C hr E (Nat.le_of_ble_eq_true rfl) (Nat.le_of_ble_eq_true rfl) rfl (u9.1, u9.2) ⟨congrArg nI hK9.symm, fun z => absurd (hK9.symm.trans z) (by decide), fun _ => hsd⟩ rfl dL_find_17
    · obtain rfl : (⟨0, 7, 18, 13⟩ : ExceptionTableEntry) = z := Option.some.inj hz
      show J D κ _ _ 18 [(0, .ref (ad 0)), (1, .int x), (2, .int y), (3, .long l)] [.ref q9] ([] ++ wd ad ro c u9.1 u9.2)
      refine j_astore C 18 (lv' := [(5, .ref q9), (0, .ref (ad 0)), (1, .int x), (2, .int y), (3, .long l)]) dL_find_18 (by rw [hn]; decide) rfl ?_
      refine j_iconst C 20 (v := nI 3) dL_find_20 rfl ?_
      exact j_xireti C hr E (Nat.le_of_ble_eq_true rfl) (Nat.le_of_ble_eq_true rfl) rfl (u9.1, u9.2) ⟨congrArg nI hK9.symm, fun z => absurd (hK9.symm.trans z) (by decide), fun _ => hsd⟩ rfl dL_find_21
    · obtain rfl : (⟨0, 7, 22, 55⟩ : ExceptionTableEntry) = z := Option.some.inj hz
      show J D κ _ _ 22 [(0, .ref (ad 0)), (1, .int x), (2, .int y), (3, .long l)] [.ref q9] ([] ++ wd ad ro c u9.1 u9.2)
      refine j_astore C 22 (lv' := [(5, .ref q9), (0, .ref (ad 0)), (1, .int x), (2, .int y), (3, .long l)]) dL_find_22 (by rw [hn]; decide) rfl ?_
      refine j_iconst C 24 (v := nI 4) dL_find_24 rfl ?_
      exact j_xireti C hr E (Nat.le_of_ble_eq_true rfl) (Nat.le_of_ble_eq_true rfl) rfl (u9.1, u9.2) ⟨congrArg nI hK9.symm, fun z => absurd (hK9.symm.trans z) (by decide), fun _ => hsd⟩ rfl dL_find_25
    · cases (show (none : Option ExceptionTableEntry) = some z from hz)
  · obtain ⟨hk0, hsd⟩ := q9
    refine j_goto C 7 26 dL_find_7 (by decide) ?_
    refine j_iconst C 26 (v := nI 0) dL_find_26 rfl ?_
    exact j_xireti C hr E (Nat.le_of_ble_eq_true rfl) (Nat.le_of_ble_eq_true rfl) rfl (u9.1, u9.2) ⟨congrArg nI hk0.symm, fun _ => hsd, fun z => absurd hk0 z⟩ rfl dL_find_27
