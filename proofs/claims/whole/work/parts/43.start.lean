/-! the law -/
set_option maxHeartbeats 2000000 in
set_option maxRecDepth 100000 in
theorem law_loop {D : va_G} {κ : Kx} {c : Nat → ClassId} {b L : Nat} {xs : Nat → Int32} (X : LX D κ c b L xs) (hend : ∀ cells slots lv ws, cells ≤ 601024 → slots ≤ 7293034 → J D κ cells slots 971 lv [.int 1] ws) {ro bd : Nat → Nat} {o : Nat} : ∀ q t x0, 512 - t ≤ q → t ≤ 512 → ∀ (ad : Nat → Nat) (Z : ZT) (Lz : LT) (ZM : ZT) (LM : LT) (out : Nat → Int64) (n : Nat) (τ : Tb) (w : List Nat) (st : Int32) (tr : List Nat), ad 0 = x0 → g_SD n τ w st tr Z Lz → g_SM n τ w st tr ZM → J D κ (100 + 4 * t) (19580 + 24 * t) 23 [(4, .int (nI (5 * t))), (0, .ref b), (1, .ref x0), (2, .ref (bd 0)), (3, .ref o)] [] (LW ad ro bd c Z Lz ZM LM o out) := by
  obtain ⟨C, hst, hxw, hxs, hxn, hX, hbl, hbA, hL, hR, hn⟩ := id X
  intro q
  induction q with
  | zero =>
    intro t x0 hq ht ad Z Lz ZM LM out n τ w st tr had hSD hSM
    refine j_iload C 23 0 dL_law_23 rfl ?_
    refine j_aload_n C 25 1 dL_law_25 rfl rfl ?_
    refine j_slen C hX hbl hbA 26 dL_law_26 ?_
    refine j_iconst C 27 (v := nI 5) dL_law_27 rfl ?_
    refine j_isub C 28 dL_law_28 ?_
    refine j_icmp_gt C 29 970 dL_law_29 (by decide) (fun _ => ?_) (fun h => absurd ((e_gt5 (by omega) hL).mpr (by omega)) h)
    refine j_iconst C 970 (v := 1) dL_law_970 rfl ?_
    exact hend _ _ _ _ (by omega) (by omega)
  | succ q ih =>
    intro t x0 hq ht ad Z Lz ZM LM out n τ w st tr had hSD hSM
    refine j_iload C 23 0 dL_law_23 rfl ?_
    refine j_aload_n C 25 1 dL_law_25 rfl rfl ?_
    refine j_slen C hX hbl hbA 26 dL_law_26 ?_
    refine j_iconst C 27 (v := nI 5) dL_law_27 rfl ?_
    refine j_isub C 28 dL_law_28 ?_
    refine j_icmp_gt C 29 970 dL_law_29 (by decide) (fun _ => ?_) (fun h => ?_)
    · refine j_iconst C 970 (v := 1) dL_law_970 rfl ?_
      exact hend _ _ _ _ (by omega) (by omega)
    have h5 : 5 * t + 5 ≤ L := Nat.le_of_not_lt (fun z => h ((e_gt5 (by omega) hL).mpr z))
    subst had
    have nxt : LN D κ c ro bd o b t (ad 0) := by
      intro ad2 Z2 L2 ZM2 LM2 out2 n2 τ2 w2 st2 tr2 cells slots had2 hSD2 hSM2 hc hs
      refine j_iinc C 964 0 (v := nI (5 * t + 5)) (lv' := [(4, .int (nI (5 * t + 5))), (0, .ref b), (1, .ref (ad 0)), (2, .ref (bd 0)), (3, .ref o)]) dL_law_964 rfl (nI_add (5 * t) 5) (by rw [hn]; decide) rfl ?_
      refine j_goto C 967 23 dL_law_967 (by decide) ?_
      refine j_widen (k := 100 + 4 * (t + 1)) (n := 19580 + 24 * (t + 1)) (by omega) (by omega) ?_
      exact ih (t + 1) (ad 0) (by omega) (by omega) ad2 Z2 L2 ZM2 LM2 out2 n2 τ2 w2 st2 tr2 had2 hSD2 hSM2
    refine j_aload_n C 32 1 dL_law_32 rfl rfl ?_
    refine j_iload C 33 0 dL_law_33 rfl ?_
    refine j_sld C hX hbl hbA (by omega) 35 (by omega) dL_law_35 ?_
    refine j_bipush C 36 (v := nI 31) dL_law_36 rfl ?_
    refine j_iand C 38 dL_law_38 ?_
    obtain ⟨k, hk, ek⟩ := e_and31 (xs (5 * t))
    refine j_eqi ek ?_
    rcases (show k = 0 ∨ k = 1 ∨ k = 2 ∨ k = 3 ∨ k = 4 ∨ k = 5 ∨ k = 6 ∨ k = 7 ∨ k = 8 ∨ k = 9 ∨ k = 10 ∨ k = 11 ∨ k = 12 ∨ k = 13 ∨ k = 14 ∨ k = 15 ∨ k = 16 ∨ k = 17 ∨ 18 ≤ k by omega) with rfl | rfl | rfl | rfl | rfl | rfl | rfl | rfl | rfl | rfl | rfl | rfl | rfl | rfl | rfl | rfl | rfl | rfl | h18
    · refine j_tin_n C 39 (a := 0) (off := 85) 124 (by decide) dL_law_39 (by decide) (by decide) (by decide) (by decide) ?_
      exact law_0 X h5 hSD hSM nxt
    · refine j_tin_n C 39 (a := 1) (off := 141) 180 (by decide) dL_law_39 (by decide) (by decide) (by decide) (by decide) ?_
      exact law_1 X h5 hSD hSM nxt
    · refine j_tin_n C 39 (a := 2) (off := 197) 236 (by decide) dL_law_39 (by decide) (by decide) (by decide) (by decide) ?_
      exact law_2 X h5 hSD hSM nxt
    · refine j_tin_n C 39 (a := 3) (off := 293) 332 (by decide) dL_law_39 (by decide) (by decide) (by decide) (by decide) ?_
      exact law_3 X h5 hSD hSM nxt
    · refine j_tin_n C 39 (a := 4) (off := 361) 400 (by decide) dL_law_39 (by decide) (by decide) (by decide) (by decide) ?_
      exact law_4 X h5 hSD hSM nxt
    · refine j_tin_n C 39 (a := 5) (off := 372) 411 (by decide) dL_law_39 (by decide) (by decide) (by decide) (by decide) ?_
      exact law_5 X h5 hSD hSM nxt
    · refine j_tin_n C 39 (a := 6) (off := 385) 424 (by decide) dL_law_39 (by decide) (by decide) (by decide) (by decide) ?_
      exact law_6 X h5 hSD hSM nxt
    · refine j_tin_n C 39 (a := 7) (off := 441) 480 (by decide) dL_law_39 (by decide) (by decide) (by decide) (by decide) ?_
      exact law_7 X h5 hSD hSM nxt
    · refine j_tin_n C 39 (a := 8) (off := 509) 548 (by decide) dL_law_39 (by decide) (by decide) (by decide) (by decide) ?_
      exact law_8 X h5 hSD hSM nxt
    · refine j_tin_n C 39 (a := 9) (off := 534) 573 (by decide) dL_law_39 (by decide) (by decide) (by decide) (by decide) ?_
      exact law_9 X h5 hSD hSM nxt
    · refine j_tin_n C 39 (a := 10) (off := 559) 598 (by decide) dL_law_39 (by decide) (by decide) (by decide) (by decide) ?_
      exact law_10 X h5 hSD hSM nxt
    · refine j_tin_n C 39 (a := 11) (off := 572) 611 (by decide) dL_law_39 (by decide) (by decide) (by decide) (by decide) ?_
      exact law_11 X h5 hSD hSM nxt
    · refine j_tin_n C 39 (a := 12) (off := 628) 667 (by decide) dL_law_39 (by decide) (by decide) (by decide) (by decide) ?_
      exact law_12 X h5 hSD hSM nxt
    · refine j_tin_n C 39 (a := 13) (off := 684) 723 (by decide) dL_law_39 (by decide) (by decide) (by decide) (by decide) ?_
      exact law_13 X h5 hSD hSM nxt
    · refine j_tin_n C 39 (a := 14) (off := 697) 736 (by decide) dL_law_39 (by decide) (by decide) (by decide) (by decide) ?_
      exact law_14 X h5 hSD hSM nxt
    · refine j_tin_n C 39 (a := 15) (off := 710) 749 (by decide) dL_law_39 (by decide) (by decide) (by decide) (by decide) ?_
      exact law_15 X h5 hSD hSM nxt
    · refine j_tin_n C 39 (a := 16) (off := 766) 805 (by decide) dL_law_39 (by decide) (by decide) (by decide) (by decide) ?_
      exact law_16 X h5 hSD hSM nxt
    · refine j_tin_n C 39 (a := 17) (off := 833) 872 (by decide) dL_law_39 (by decide) (by decide) (by decide) (by decide) ?_
      exact law_17 X h5 hSD hSM nxt
    · refine j_tout_n C 39 (a := k) 964 (by omega) dL_law_39 (Or.inr (by omega)) (by decide) ?_
      exact nxt ad Z Lz ZM LM out n τ w st tr _ _ rfl hSD hSM (by omega) (by omega)
section W79
variable (ad ro : Nat → Nat) (c : Nat → ClassId) (Z : ZT) (L : LT) (x : Nat × va_E)
set_option maxRecDepth 100000 in
theorem wd_R1 : ks79.map (fun i => (wd ad ro c Z L ++ [x])[i]?) = (wd ad ro c Z L).map some := rfl
set_option maxRecDepth 100000 in
theorem wd_C1 : [79].map (fun i => (wd ad ro c Z L ++ [x])[i]?) = [x].map some := rfl
end W79
theorem ks79_d2 : ∀ i ∈ ks79, i ∉ [79] := by decide
theorem gW_X7_init : GoodIn lw_tbl vsX7_init := fun w h => ⟨in_X7_init w h, gd_X7_init w h⟩
theorem gW_X8_init : GoodIn lw_tbl vsX8_init := fun w h => ⟨in_X8_init w h, gd_X8_init w h⟩
theorem g_WF_0 : g_WF 0 (fun _ _ => 0) := ⟨Nat.zero_le _, fun t ht => absurd ht (Nat.not_lt_zero t)⟩
theorem g_SD_0 : g_SD 0 (fun _ _ => 0) [] (-1) [] zD0 l00 := ⟨g_WF_0, fun t ht => absurd ht (Nat.not_lt_zero t), rfl, ⟨Nat.zero_le _, rfl, g_ar_nil, fun u hu => by cases hu⟩, rfl, rfl, show g_tr (l00 27) [] from fun j hj => absurd hj (Nat.not_lt_zero j), Nat.zero_le _⟩
theorem g_SM_0 : g_SM 0 (fun _ _ => 0) [] (-1) [] zM0 := ⟨g_WF_0, fun t ht => absurd ht (Nat.not_lt_zero t), rfl, ⟨Nat.zero_le _, rfl, g_ar_nil, fun u hu => by cases hu⟩, rfl, rfl, g_ar_nil, Nat.zero_le _⟩
set_option maxHeartbeats 2000000 in
set_option maxRecDepth 100000 in
theorem law_all {D : va_G} {κ : Kx} {c : Nat → ClassId} {b L : Nat} {xs : Nat → Int32} (X : LX D κ c b L xs) (I : xI (js κ)) (hend : ∀ cells slots lv ws, cells ≤ 601024 → slots ≤ 7293034 → J D κ cells slots 971 lv [.int 1] ws) : J D κ 0 0 0 [(0, .ref b)] [] [] := by
  obtain ⟨C, hst, hxw, hxs, hxn, hX, hbl, hbA, hL, hR, hn⟩ := id X
  refine j_new C 0 (ci := 7) (fs := [.null, .null, .null, .null, .null, .null, .int 0]) (fun w h => C.t w (wsX70_in w h)) tyX7_ok (C.t _ (List.mem_of_getElem? (i := 72) (show lw_tbl[72]? = some (.classLink RL 8 RX7) from by decide +kernel))) (C.t _ (List.mem_of_getElem? (i := 73) (show lw_tbl[73]? = some (.instantiable RX7 7) from by decide +kernel))) (C.t _ (List.mem_of_getElem? (i := 53) (show lw_tbl[53]? = some (.initialized RX7) from by decide +kernel))) rfl (fun j hj => by rcases (show j = 0 ∨ j = 1 ∨ j = 2 ∨ j = 3 ∨ j = 4 ∨ j = 5 ∨ j = 6 by omega) with rfl | rfl | rfl | rfl | rfl | rfl | rfl <;> rfl) (by rw [hR]; exact ⟨Nat.le_of_ble_eq_true rfl, Nat.le_of_ble_eq_true rfl⟩) dL_law_0 (fun q1 => ?_)
  refine j_dup C 3 dL_law_3 rfl ?_
  refine j_ini (wr := []) C I 4 (n_X7 (jl κ) D c q1) gW_X7_init rfl rfl rfl (C.t _ (List.mem_of_getElem? (i := 53) (show lw_tbl[53]? = some (.initialized RX7) from by decide +kernel))) (Or.inl (C.t _ (List.mem_of_getElem? (i := 74) (show lw_tbl[74]? = some (.methodLink RL 57 yX7_init) from by decide +kernel)))) (C.t _ (List.mem_of_getElem? (i := 75) (show lw_tbl[75]? = some (.instanceMethod yX7_init) from by decide +kernel))) rfl (show yX7_init.cls ≠ "java/lang/invoke/MethodHandle" ∧ yX7_init.cls ≠ "java/lang/invoke/VarHandle" ∧ (parseMethodDescriptor yX7_init.desc).map (fun d => d.parameters.length) = some 0 from by decide +kernel) (by rw [hR]; exact ⟨Nat.le_of_ble_eq_true rfl, Nat.le_of_ble_eq_true rfl⟩) [0] [] rfl (by decide) rfl (by decide) (by decide) rfl (Nat.le_of_ble_eq_true rfl) (by rw [hR]; exact ⟨Nat.le_of_ble_eq_true rfl, Nat.le_of_ble_eq_true rfl⟩) dL_law_4 (fun u1 h1 => ?_)
  refine j_ws (ws' := wd u1.1 u1.2 c zD0 l00) rfl ?_
  refine j_astore_n C 7 (lv' := [(1, .ref q1), (0, .ref b)]) dL_law_7 rfl (by rw [hn]; decide) rfl ?_
  refine j_new C 8 (ci := 8) (fs := [.int 0, .int 0, .null, .null, .null, .null, .null, .null, .null, .null, .null, .null, .null, .int 0, .null, .int 0, .int 0, .null, .int 0, .null, .int 0, .int 0, .null, .int 0, .null, .null, .null, .null]) (fun w h => C.t w (wsX80_in w h)) tyX8_ok (C.t _ (List.mem_of_getElem? (i := 819) (show lw_tbl[819]? = some (.classLink RL 58 RX8) from by decide +kernel))) (C.t _ (List.mem_of_getElem? (i := 820) (show lw_tbl[820]? = some (.instantiable RX8 28) from by decide +kernel))) (C.t _ (List.mem_of_getElem? (i := 61) (show lw_tbl[61]? = some (.initialized RX8) from by decide +kernel))) rfl (fun j hj => by rcases (show j = 0 ∨ j = 1 ∨ j = 2 ∨ j = 3 ∨ j = 4 ∨ j = 5 ∨ j = 6 ∨ j = 7 ∨ j = 8 ∨ j = 9 ∨ j = 10 ∨ j = 11 ∨ j = 12 ∨ j = 13 ∨ j = 14 ∨ j = 15 ∨ j = 16 ∨ j = 17 ∨ j = 18 ∨ j = 19 ∨ j = 20 ∨ j = 21 ∨ j = 22 ∨ j = 23 ∨ j = 24 ∨ j = 25 ∨ j = 26 ∨ j = 27 by omega) with rfl | rfl | rfl | rfl | rfl | rfl | rfl | rfl | rfl | rfl | rfl | rfl | rfl | rfl | rfl | rfl | rfl | rfl | rfl | rfl | rfl | rfl | rfl | rfl | rfl | rfl | rfl | rfl <;> rfl) (by rw [hR]; exact ⟨Nat.le_of_ble_eq_true rfl, Nat.le_of_ble_eq_true rfl⟩) dL_law_8 (fun q2 => ?_)
  refine j_dup C 11 dL_law_11 rfl ?_
  refine j_ini (wr := wd u1.1 u1.2 c zD0 l00) C I 12 (n_X8 (jl κ) D c q2) gW_X8_init rfl rfl rfl (C.t _ (List.mem_of_getElem? (i := 61) (show lw_tbl[61]? = some (.initialized RX8) from by decide +kernel))) (Or.inl (C.t _ (List.mem_of_getElem? (i := 821) (show lw_tbl[821]? = some (.methodLink RL 60 yX8_init) from by decide +kernel)))) (C.t _ (List.mem_of_getElem? (i := 822) (show lw_tbl[822]? = some (.instanceMethod yX8_init) from by decide +kernel))) rfl (show yX8_init.cls ≠ "java/lang/invoke/MethodHandle" ∧ yX8_init.cls ≠ "java/lang/invoke/VarHandle" ∧ (parseMethodDescriptor yX8_init.desc).map (fun d => d.parameters.length) = some 0 from by decide +kernel) (by rw [hR]; exact ⟨Nat.le_of_ble_eq_true rfl, Nat.le_of_ble_eq_true rfl⟩) [79] ks79 (wd_C1 u1.1 u1.2 c zD0 l00 _) (by decide) (wd_R1 u1.1 u1.2 c zD0 l00 _) ks79_nd ks79_d2 rfl (Nat.le_of_ble_eq_true rfl) (by rw [hR]; exact ⟨Nat.le_of_ble_eq_true rfl, Nat.le_of_ble_eq_true rfl⟩) dL_law_12 (fun u2 h2 => ?_)
  refine j_astore_n C 15 (lv' := [(2, .ref q2), (1, .ref q1), (0, .ref b)]) dL_law_15 rfl (by rw [hn]; decide) rfl ?_
  refine j_iconst C 16 (v := nI 1) dL_law_16 rfl ?_
  refine j_newa C 17 (atype := .long) (ty := .long) 2 rfl (C.t _ (List.mem_of_getElem? (i := 176) (show lw_tbl[176]? = some (.arrayClass .long) from by decide +kernel))) rfl (a0 := (1, .inr (.inl (fun _ => 0)))) (N' := 1) (fun _ => rfl) (by decide) (by decide) (show 1 * 8 ≤ 536870912 by omega) (by rw [hR]; exact ⟨Nat.le_of_ble_eq_true rfl, Nat.le_of_ble_eq_true rfl⟩) dL_law_17 (fun q3 => ?_)
  refine j_astore_n C 19 (lv' := [(3, .ref q3), (2, .ref q2), (1, .ref q1), (0, .ref b)]) dL_law_19 rfl (by rw [hn]; decide) rfl ?_
  refine j_iconst C 20 (v := nI 0) dL_law_20 rfl ?_
  refine j_istore C 21 (lv' := [(4, .int (nI 0)), (3, .ref q3), (2, .ref q2), (1, .ref q1), (0, .ref b)]) dL_law_21 (by rw [hn]; decide) rfl ?_
  refine j_ws (ws' := LW u1.1 u1.2 u2.1 c zD0 l00 zM0 l00 q3 (fun _ => 0)) (List.append_assoc _ _ _) ?_
  refine j_widen (k := 100 + 4 * 0) (n := 19580 + 24 * 0) (Nat.le_of_ble_eq_true rfl) (Nat.le_of_ble_eq_true rfl) ?_
  refine j_lv [0, 4, 3, 2, 1] (lv' := [(4, .int (nI (5 * 0))), (0, .ref b), (1, .ref q1), (2, .ref (u2.1 0)), (3, .ref q3)]) ?_ ?_
  · rw [show u2.1 0 = q2 from h2]
    rfl
  exact law_loop X hend 512 0 q1 (by decide) (by decide) u1.1 zD0 l00 zM0 l00 (fun _ => 0) 0 (fun _ _ => 0) [] (-1) [] h1 g_SD_0 g_SM_0
theorem e_arr {s : State} {args : Array Value} {ty : FieldType} (h : (Cond.arrayClass ty).before args s = true) (hty : ∀ n, ty ≠ .object n) : ∃ cA, ArrOfT s cA ty ∧ va_RA s cA ty := by
  obtain ⟨cA, kA, comp, h1, h2, h3⟩ := Cond.arrayClass_spec h
  refine ⟨cA, fun n z => ⟨fun k h => (by cases h), kA, h2, comp, h3⟩, ?_⟩
  cases ty with
  | object n => exact absurd rfl (hty n)
  | _ => exact h1
theorem e_arr2 {s : State} {args : Array Value} {ty : FieldType} (h : (Cond.arrayOver (.array ty)).before args s = true) : ∃ cA, ArrOfT s cA (.array ty) ∧ va_RA s cA (.array ty) := by
  obtain ⟨comp, cA, kA, -, -, h2, h3, h1⟩ := Stand.arrayOver_specB h
  exact ⟨cA, fun n z => ⟨fun k h => (by cases h), kA, h2, comp, h3⟩, h1⟩
set_option maxHeartbeats 4000000 in
set_option maxRecDepth 100000 in
theorem whole_start {p : Program} {e : Env} {s : State} {m : MethodId} {below : List Frame} {meth : Method} {c : Code} (l : Launch) (hflags : l.flags = flags0) {b L : Nat} {xs : Nat → Int32} (hL : L ≤ 2560) (C0 : lw_At p s m meth c b L xs) : W p l e room_1 s m #[Value.ref b] below meth c s.heap [] 0 0 (lw_Z below #[Value.ref b] s) (entryFrame m ([Value.ref b] : List Value).toArray 8) := by
  obtain ⟨hx, hb, hr, hml, hown, hts, hX, hbl, hlocks, hgv⟩ := id C0
  have hs := flat_of_before _ hgv
  obtain ⟨c0, i0, hKn0⟩ := u_known (C := RX0) (T := TX0) (N := 8) (n := 8) hts wsX00_in (hts _ (List.mem_of_getElem? (i := 158) (show lw_tbl[158]? = some (.instantiable RX0 8) from by decide +kernel)))
  obtain ⟨c1, i1, hKn1⟩ := u_known (C := RX1) (T := TX1) (N := 9) (n := 9) hts wsX10_in (hts _ (List.mem_of_getElem? (i := 221) (show lw_tbl[221]? = some (.instantiable RX1 9) from by decide +kernel)))
  obtain ⟨c2, i2, hKn2⟩ := u_known (C := RX2) (T := TX2) (N := 2) (n := 2) hts wsX20_in (hts _ (List.mem_of_getElem? (i := 164) (show lw_tbl[164]? = some (.instantiable RX2 2) from by decide +kernel)))
  obtain ⟨c3, i3, hKn3⟩ := u_known (C := RX3) (T := TX3) (N := 3) (n := 3) hts wsX30_in (hts _ (List.mem_of_getElem? (i := 203) (show lw_tbl[203]? = some (.instantiable RX3 3) from by decide +kernel)))
  obtain ⟨c4, i4, hKn4⟩ := u_known (C := RX4) (T := TX4) (N := 7) (n := 7) hts wsX40_in (hts _ (List.mem_of_getElem? (i := 81) (show lw_tbl[81]? = some (.instantiable RX4 7) from by decide +kernel)))
  obtain ⟨c5, i5, hKn5⟩ := u_known (C := RX5) (T := TX5) (N := 9) (n := 9) hts wsX50_in (hts _ (List.mem_of_getElem? (i := 110) (show lw_tbl[110]? = some (.instantiable RX5 9) from by decide +kernel)))
  obtain ⟨c6, i6, hKn6⟩ := u_known (C := RX6) (T := TX6) (N := 2) (n := 2) hts wsX60_in (hts _ (List.mem_of_getElem? (i := 145) (show lw_tbl[145]? = some (.instantiable RX6 2) from by decide +kernel)))
  obtain ⟨c7, i7, hKn7⟩ := u_known (C := RX7) (T := TX7) (N := 7) (n := 7) hts wsX70_in (hts _ (List.mem_of_getElem? (i := 73) (show lw_tbl[73]? = some (.instantiable RX7 7) from by decide +kernel)))
  obtain ⟨c8, i8, hKn8⟩ := u_known (C := RX8) (T := TX8) (N := 28) (n := 28) hts wsX80_in (hts _ (List.mem_of_getElem? (i := 820) (show lw_tbl[820]? = some (.instantiable RX8 28) from by decide +kernel)))
  obtain ⟨dC, dI, hKc⟩ : ∃ (dC : Nat → ClassId) (dI : Nat → Nat → Nat), ∀ (k : Nat) (q : vw_C), vwCl[k]? = some q → u_Kn s q.1 q.2.1 q.2.2 (dC k) (dI k) := by
    refine ⟨fun k => if k = 0 then c0 else if k = 1 then c1 else if k = 2 then c2 else if k = 3 then c3 else if k = 4 then c4 else if k = 5 then c5 else if k = 6 then c6 else if k = 7 then c7 else c8, fun k => if k = 0 then i0 else if k = 1 then i1 else if k = 2 then i2 else if k = 3 then i3 else if k = 4 then i4 else if k = 5 then i5 else if k = 6 then i6 else if k = 7 then i7 else i8, ?_⟩
    intro k q hq
    match k, hq with
    | 0, hq => cases hq; exact hKn0
    | 1, hq => cases hq; exact hKn1
    | 2, hq => cases hq; exact hKn2
    | 3, hq => cases hq; exact hKn3
    | 4, hq => cases hq; exact hKn4
    | 5, hq => cases hq; exact hKn5
    | 6, hq => cases hq; exact hKn6
    | 7, hq => cases hq; exact hKn7
    | 8, hq => cases hq; exact hKn8
    | k + 9, hq => simp [vwCl] at hq
  obtain ⟨a0, hA0⟩ := e_arr (hts _ (List.mem_of_getElem? (i := 108) (show lw_tbl[108]? = some (.arrayClass .int) from by decide +kernel))) (fun n h => by cases h)
  obtain ⟨a1, hA1⟩ := e_arr (hts _ (List.mem_of_getElem? (i := 143) (show lw_tbl[143]? = some (.arrayClass .boolean) from by decide +kernel))) (fun n h => by cases h)
  obtain ⟨a2, hA2⟩ := e_arr (hts _ (List.mem_of_getElem? (i := 176) (show lw_tbl[176]? = some (.arrayClass .long) from by decide +kernel))) (fun n h => by cases h)
  have hov : (Cond.arrayOver (.array .long)).before #[Value.ref b] s = true := hts _ (List.mem_append_right _ (show Cond.arrayOver (.array .long) ∈ tables_1 from by decide +kernel))
  obtain ⟨a3, hA3⟩ := e_arr2 hov
  have hK : va_K (dC, dI) vwCl (tysG (fun k => if k = 0 then a0 else if k = 1 then a1 else if k = 2 then a2 else a3)) s := by
    refine ⟨hKc, ?_⟩
    intro k q hq
    match k, hq with
    | 0, hq => cases hq; exact hA0
    | 1, hq => cases hq; exact hA1
    | 2, hq => cases hq; exact hA2
    | 3, hq => cases hq; exact hA3
    | k + 4, hq => simp at hq
  have hin : ∀ w, w ∈ tables_1 → w.before #[Value.ref b] s = true := fun w hw => hts w (List.mem_append_right _ hw)
  have hxI : xI s := ⟨va_AOA.of hov, va_Nw.of rfl (hin (.methodLinkNest RX7 11 yX4_init "GuardedGrammar") (by decide +kernel)), va_Nw.of rfl (hin (.methodLinkNest RX7 27 yX6_init "GuardedGrammar") (by decide +kernel)), va_Nw.of rfl (hin (.methodLinkNest RX0 27 yX2_init "GuardedGrammar") (by decide +kernel))⟩
  have hxW : xW s := by
    refine ⟨va_Nw.of rfl (hin (.declares (Bundle.init0 "java/lang/RuntimeException")) (by decide +kernel)), va_Nw.of rfl (hin (.declares (Bundle.init0 "java/lang/Exception")) (by decide +kernel)), va_Nw.of rfl (hin (.declares (Bundle.init0 "java/lang/Throwable")) (by decide +kernel)), ?_⟩
    intro E hE
    simp only [xEs, List.mem_cons, List.not_mem_nil, or_false] at hE
    rcases hE with rfl | rfl | rfl | rfl | rfl
    · exact va_Nw.of rfl (hin (.castable "java/lang/IllegalArgumentException" "java/lang/IllegalArgumentException") (by decide +kernel))
    · exact va_Nw.of rfl (hin (.castable "java/lang/UnsupportedOperationException" "java/lang/UnsupportedOperationException") (by decide +kernel))
    · exact va_Nw.of rfl (hin (.castable "java/lang/IndexOutOfBoundsException" "java/lang/IndexOutOfBoundsException") (by decide +kernel))
    · exact va_Nw.of rfl (hin (.castable "java/lang/IllegalStateException" "java/lang/IllegalStateException") (by decide +kernel))
    · exact va_Nw.of rfl (hin (.castable "java/util/NoSuchElementException" "java/util/NoSuchElementException") (by decide +kernel))
  have hxS : xS (fun q => s.heap.size ≤ q) s s.heap := by
    have hA : ∀ a : Nat, a < s.heap.size → ¬ (fun q => s.heap.size ≤ q) a := fun a h z => absurd h (Nat.not_lt.mpr z)
    exact ⟨vx_Zqof (hin (.laysStatic Bundle.tN "UNASSIGNED_STACK" Bundle.steD) (by decide +kernel)) (hin (.initialized Bundle.tN) (by decide +kernel)) (hs (.isRef (.static Bundle.tN "UNASSIGNED_STACK" Bundle.steD)) (by decide +kernel)) hA,
      vx_Zqof (hin (.laysStatic Bundle.tN "SUPPRESSED_SENTINEL" Bundle.listD) (by decide +kernel)) (hin (.initialized Bundle.tN) (by decide +kernel)) (hs (.isRef (.static Bundle.tN "SUPPRESSED_SENTINEL" Bundle.listD)) (by decide +kernel)) hA⟩
  have hxN : xN5 s := by
    intro E hE F hF hne
    simp only [xEs, List.mem_cons, List.not_mem_nil, or_false] at hE hF
    rcases hE with rfl | rfl | rfl | rfl | rfl <;> rcases hF with rfl | rfl | rfl | rfl | rfl <;> first | exact absurd rfl hne | exact va_Nc.of (hs _ (by decide +kernel))
  have hst : l.stackTraces = false := by
    unfold Launch.stackTraces
    rw [hflags]
    decide
  have K := law_all (D := (dC, dI)) (κ := (p, l, e, room_1, s, m, #[Value.ref b], below, meth, c, lw_Z below #[Value.ref b] s, (fun q => s.heap.size ≤ q), 8)) (c := fun k => if k = 0 then a0 else if k = 1 then a1 else if k = 2 then a2 else a3) (b := b) (L := L) (xs := xs) ⟨⟨hx, hb, hml, hown, hts, hK, fun q h => h, hlocks⟩, hst, hxW, hxS, hxN, hX, hbl, Nat.not_le.mpr hbl, hL, rfl, rfl⟩ hxI (fun cells slots lv ws hc hsl H locs ls h hP hD hS => va_forget (fun q hq => hS.2.2 q hq) (W.widen hc hsl (lw_ret hx hb hr hlocks dL_law_971)))
  have hl := lv_entry ([.ref b]) (n := 8) (Nat.le_of_ble_eq_true rfl)
  rw [lg_entry_eq]
  generalize (lg_sl ([.ref b]) ++ List.replicate (8 - (lg_sl ([.ref b])).length) Slot.unset).toArray = ls at hl ⊢
  exact K s.heap [] ls hl (fun k q h => by simp at h) ⟨fun i j p q h => by simp at h, fun k q h => by simp at h⟩ va_S.rf
