/-! contracts: Terms.add, and what the class needs before it goes on -/
theorem ng_IAE : (vx_at0 RX7 63 "java/lang/IllegalArgumentException" xNm).filter (fun w => !goodWord w) = [.declares (Bundle.init0 "java/lang/RuntimeException"), .declares (Bundle.init0 "java/lang/Exception"), .declares (Bundle.init0 "java/lang/Throwable"), .castable "java/lang/IllegalArgumentException" "java/lang/IllegalArgumentException"] := by decide +kernel
theorem gx_IAE : ∀ w ∈ Cond.classLink RX7 61 "java/lang/IllegalArgumentException" :: Cond.initialized "java/lang/IllegalArgumentException" :: vx_at0 RX7 63 "java/lang/IllegalArgumentException" xNm, vx_ot w = true := by decide +kernel
theorem fx_IAE : Bundle.fit "java/lang/IllegalArgumentException" = true := by decide +kernel
theorem ix_IAE : "java/lang/IllegalArgumentException" ∈ xEs := by decide +kernel
theorem ng_UOE : (vx_at0 RX7 91 "java/lang/UnsupportedOperationException" xNm).filter (fun w => !goodWord w) = [.declares (Bundle.init0 "java/lang/RuntimeException"), .declares (Bundle.init0 "java/lang/Exception"), .declares (Bundle.init0 "java/lang/Throwable"), .castable "java/lang/UnsupportedOperationException" "java/lang/UnsupportedOperationException"] := by decide +kernel
theorem gx_UOE : ∀ w ∈ Cond.classLink RX7 89 "java/lang/UnsupportedOperationException" :: Cond.initialized "java/lang/UnsupportedOperationException" :: vx_at0 RX7 91 "java/lang/UnsupportedOperationException" xNm, vx_ot w = true := by decide +kernel
theorem fx_UOE : Bundle.fit "java/lang/UnsupportedOperationException" = true := by decide +kernel
theorem ix_UOE : "java/lang/UnsupportedOperationException" ∈ xEs := by decide +kernel
theorem ng_IOB : (vx_at0 RX7 107 "java/lang/IndexOutOfBoundsException" xNm).filter (fun w => !goodWord w) = [.declares (Bundle.init0 "java/lang/RuntimeException"), .declares (Bundle.init0 "java/lang/Exception"), .declares (Bundle.init0 "java/lang/Throwable"), .castable "java/lang/IndexOutOfBoundsException" "java/lang/IndexOutOfBoundsException"] := by decide +kernel
theorem gx_IOB : ∀ w ∈ Cond.classLink RX7 105 "java/lang/IndexOutOfBoundsException" :: Cond.initialized "java/lang/IndexOutOfBoundsException" :: vx_at0 RX7 107 "java/lang/IndexOutOfBoundsException" xNm, vx_ot w = true := by decide +kernel
theorem fx_IOB : Bundle.fit "java/lang/IndexOutOfBoundsException" = true := by decide +kernel
theorem ix_IOB : "java/lang/IndexOutOfBoundsException" ∈ xEs := by decide +kernel
theorem ng_ISE : (vx_at0 RX7 84 "java/lang/IllegalStateException" xNm).filter (fun w => !goodWord w) = [.declares (Bundle.init0 "java/lang/RuntimeException"), .declares (Bundle.init0 "java/lang/Exception"), .declares (Bundle.init0 "java/lang/Throwable"), .castable "java/lang/IllegalStateException" "java/lang/IllegalStateException"] := by decide +kernel
theorem gx_ISE : ∀ w ∈ Cond.classLink RX7 82 "java/lang/IllegalStateException" :: Cond.initialized "java/lang/IllegalStateException" :: vx_at0 RX7 84 "java/lang/IllegalStateException" xNm, vx_ot w = true := by decide +kernel
theorem fx_ISE : Bundle.fit "java/lang/IllegalStateException" = true := by decide +kernel
theorem ix_ISE : "java/lang/IllegalStateException" ∈ xEs := by decide +kernel
theorem ng_NSE : (vx_at0 RX7 164 "java/util/NoSuchElementException" xNm).filter (fun w => !goodWord w) = [.declares (Bundle.init0 "java/lang/RuntimeException"), .declares (Bundle.init0 "java/lang/Exception"), .declares (Bundle.init0 "java/lang/Throwable"), .castable "java/util/NoSuchElementException" "java/util/NoSuchElementException"] := by decide +kernel
theorem gx_NSE : ∀ w ∈ Cond.classLink RX7 162 "java/util/NoSuchElementException" :: Cond.initialized "java/util/NoSuchElementException" :: vx_at0 RX7 164 "java/util/NoSuchElementException" xNm, vx_ot w = true := by decide +kernel
theorem fx_NSE : Bundle.fit "java/util/NoSuchElementException" = true := by decide +kernel
theorem ix_NSE : "java/util/NoSuchElementException" ∈ xEs := by decide +kernel
theorem j_mmax {D : va_G} {κ : Kx} {cc : ByteArray} {own : String} {Ts : List Cond} {tys : List (ClassId × FieldType)} {cells slots : Nat} {lv : List (Nat × Value)} {st : List Value} {ws : va_W} (C : Cx D κ cc own Ts tys) (pc : Nat) {index : Nat} {x y z : Int32} (hlink : (Cond.methodLink own index Lib.Math.max.name).before (ja κ) (js κ) = true) (hstat : (Cond.static Lib.Math.max.name).before (ja κ) (js κ) = true) (hini : (Cond.initialized "java/lang/Math").before (ja κ) (js κ) = true) (hcode : (Cond.code Lib.Math.max.name Lib.Math.max.code 2 (some .int)).before (ja κ) (js κ) = true)
    (hR : 1 ≤ (jR κ).frames ∧ (st.map fun v => v.category).sum + 13 ≤ (jR κ).locals) (hf : cells ≤ (jR κ).cells ∧ slots ≤ (jR κ).slots) (hd : decode cc pc = .ok (.invokestatic index, 3)) (hz : (if x < y then y else x) = z) (k : J D κ cells slots (pc + 3) lv (.int z :: st) ws) : J D κ cells slots pc lv (.int y :: .int x :: st) ws := fun H locs ls h hP hD hS => by
  subst hz
  exact va_mmax C.x C.b (C.n.trans h.1.symm) C.o hlink hstat hini hcode hR.1 hR.2 hf.1 hf.2 hd (k H locs ls h hP hD hS)
theorem e_max {a b : Nat} (ha : a < 2 ^ 31) (hb : b < 2 ^ 31) : (if nI a < nI b then nI b else nI a) = nI (max a b) := by
  by_cases h : a < b
  · rw [if_pos ((nI_ltI ha hb).mpr h), Nat.max_eq_right (Nat.le_of_lt h)]
  · rw [if_neg (fun z => h ((nI_ltI ha hb).mp z)), Nat.max_eq_left (by omega)]
theorem e_w0 {f : Nat → Int32} {n : Nat} : ∀ t, t < n + 1 → upd f n (-1) t = if t = n then -1 else if t ∈ ([] : List Nat) then nI n else f t := fun t _ => by
  unfold upd
  simp
theorem e_w1 {f : Nat → Int32} {n a : Nat} (ha : a < n) : ∀ t, t < n + 1 → upd (upd f n (-1)) a (nI n) t = if t = n then -1 else if t ∈ [a] then nI n else f t := fun t _ => by
  by_cases e1 : t = a
  · subst e1
    rw [e_upd_same, if_neg (by omega), if_pos (by simp)]
  · rw [e_upd_ne _ _ e1]
    by_cases e2 : t = n
    · subst e2; rw [e_upd_same, if_pos rfl]
    · rw [e_upd_ne _ _ e2, if_neg e2, if_neg (by simpa using e1)]
theorem e_w2 {f : Nat → Int32} {n a b : Nat} (ha : a < n) (hb : b < n) : ∀ t, t < n + 1 → upd (upd (upd f n (-1)) a (nI n)) b (nI n) t = if t = n then -1 else if t ∈ [a, b] then nI n else f t := fun t ht => by
  by_cases e1 : t = b
  · subst e1
    rw [e_upd_same, if_neg (by omega), if_pos (by simp)]
  · rw [e_upd_ne _ _ e1, e_w1 ha t ht]
    by_cases e2 : t = n
    · rw [if_pos e2, if_pos e2]
    · rw [if_neg e2, if_neg e2]
      by_cases e3 : t = a
      · rw [if_pos (by simpa using e3), if_pos (by simp [e3])]
      · rw [if_neg (by simpa using e3), if_neg (by simp [e1, e3])]
/-- how many knots lie in one another in a new term -/
def g_kn (τ : Tb) (k : Nat) (cl : List Nat) : Nat := (match cl with | [] => 0 | [a] => τ 6 a | a :: b :: _ => max (τ 6 a) (τ 6 b)) + (if k = 6 then 1 else 0)
theorem g_SD_new {n : Nat} {τ τ' : Tb} {w : List Nat} {st : Int32} {tr : List Nat} {Z Z' : ZT} {L : LT} (h : g_SD n τ w st tr Z L) (hwf : g_WF (n + 1) τ') (hE : g_ED (n + 1) τ' Z') (hz : Z' 40 0 = nI (n + 1)) (hf : g_fr [9, 10, 11, 12, 13, 14, 40] Z Z') : g_SD (n + 1) τ' w st tr Z' L := by
  obtain ⟨h1, h2, h3, h4, h5, h6, h7, h8⟩ := h
  refine ⟨hwf, hE, hz, g_WD_fr hf (by decide) h4, ?_, ?_, h7, h8⟩
  · rw [hf 50 (by decide)]; exact h5
  · rw [hf 47 (by decide)]; exact h6
set_option maxHeartbeats 4000000 in
set_option maxRecDepth 100000 in
theorem c_X4_add (ll : Launch) (D : va_G) (ad ro : Nat → Nat) (c : Nat → ClassId) (Z : ZT) (L : LT) {n : Nat} {τ : Tb} (k s : Nat) (cl : List Nat) (v l r : Int32) (hwf : g_WF n τ) (hE : g_ED n τ Z) (hz : Z 40 0 = nI n) (hNC : g_NC n τ k s cl (g_kn τ k cl)) (hv : k = 2 ∨ k = 5 ∨ k = 6 → v = nI s) (hl : l = g_ox cl[0]?) (hr2 : r = g_ox cl[1]?) : cI (S := ZT) ll yX4_add vsX4_add ({ frames := 1, cells := 0, slots := 0, locals := 38 } : Room) D (tysG c) [.ref (ad 1), .int (nI (k)), .int (v), .int (l), .int (r)] (wd ad ro c Z L) (fun Z' => wd ad ro c Z' L) (fun r9 Z' => r9 = nI n ∧ g_ED (n + 1) (g_new n τ k s cl (g_kn τ k cl)) Z' ∧ Z' 40 0 = nI (n + 1) ∧ g_fr [9, 10, 11, 12, 13, 14, 40] Z Z') 0 0 := by
  refine cI_start (cc := cX4_add) (maxL := 6) RX4 rfl (by decide +kernel) rfl (Nat.le_of_ble_eq_true rfl) ?_
  intro κ hlκ C hr _ E hR hn
  subst hlκ
  have hL : ∀ w ∈ u_ws RX4 TX4 7, w.before (ja κ) (js κ) = true := fun w h => C.t w (mX4_add_wsX40 w h)
  have f30 : (Cond.fieldLink RX4 30 "GuardedGrammar$Terms" (TX4 6).2.1 (TX4 6).2.2.1).before (ja κ) (js κ) = true := C.t (.fieldLink RX4 30 "GuardedGrammar$Terms" "size" "I") (mX4_add_o _ (by decide +kernel))
  have f9 : (Cond.fieldLink RX4 9 "GuardedGrammar$Terms" (TX4 0).2.1 (TX4 0).2.2.1).before (ja κ) (js κ) = true := C.t (.fieldLink RX4 9 "GuardedGrammar$Terms" "kinds" "[I") (mX4_add_o _ (by decide +kernel))
  have f15 : (Cond.fieldLink RX4 15 "GuardedGrammar$Terms" (TX4 1).2.1 (TX4 1).2.2.1).before (ja κ) (js κ) = true := C.t (.fieldLink RX4 15 "GuardedGrammar$Terms" "values" "[I") (mX4_add_o _ (by decide +kernel))
  have f18 : (Cond.fieldLink RX4 18 "GuardedGrammar$Terms" (TX4 2).2.1 (TX4 2).2.2.1).before (ja κ) (js κ) = true := C.t (.fieldLink RX4 18 "GuardedGrammar$Terms" "lefts" "[I") (mX4_add_o _ (by decide +kernel))
  have f21 : (Cond.fieldLink RX4 21 "GuardedGrammar$Terms" (TX4 3).2.1 (TX4 3).2.2.1).before (ja κ) (js κ) = true := C.t (.fieldLink RX4 21 "GuardedGrammar$Terms" "rights" "[I") (mX4_add_o _ (by decide +kernel))
  have f24 : (Cond.fieldLink RX4 24 "GuardedGrammar$Terms" (TX4 4).2.1 (TX4 4).2.2.1).before (ja κ) (js κ) = true := C.t (.fieldLink RX4 24 "GuardedGrammar$Terms" "wholes" "[I") (mX4_add_o _ (by decide +kernel))
  have f27 : (Cond.fieldLink RX4 27 "GuardedGrammar$Terms" (TX4 5).2.1 (TX4 5).2.2.1).before (ja κ) (js κ) = true := C.t (.fieldLink RX4 27 "GuardedGrammar$Terms" "knots" "[I") (mX4_add_o _ (by decide +kernel))
  show J D κ 0 0 0 [(0, .ref (ad 1)), (1, .int (nI (k))), (2, .int (v)), (3, .int (l)), (4, .int (r))] [] (wd ad ro c Z L)
  have hn48 := hNC.1
  have hkk := hNC.2.1
  have hc2 : cl.length ≤ 2 := by
    obtain ⟨-, -, -, -, -, h6, h34, h0, -⟩ := hNC
    by_cases k6 : k = 6
    · obtain ⟨a, rfl⟩ := h6 k6; simp
    by_cases k3 : k = 3 ∨ k = 4
    · obtain ⟨a, b, -, rfl⟩ := h34 k3; simp
    · rw [h0 (by omega) (by omega) k6]; decide
  have hcl := hNC.2.2.2.2.1
  rcases cl with _ | ⟨a, _ | ⟨b, _ | ⟨c9, t9⟩⟩⟩
  · change l = -1 at hl
    change r = -1 at hr2
    subst hl
    subst hr2
    refine j_aload_n C 0 0 dX4_add_0 rfl rfl ?_
    refine j_get C 1 (ci := 4) hL rfl 1 (wd_o1 ad ro c Z L) 6 (by decide) f30 rfl (v := .int (Z 40 0)) rfl dX4_add_1 ?_
    refine j_eqi hz ?_
    refine j_istore C 4 (lv' := [(5, .int (nI (n))), (0, .ref (ad 1)), (1, .int (nI (k))), (2, .int (v)), (3, .int (-1)), (4, .int (-1))]) dX4_add_4 (by rw [hn]; decide) rfl ?_
    refine j_aload_n C 6 1 dX4_add_6 rfl rfl ?_
    refine j_dup C 7 dX4_add_7 rfl ?_
    refine j_get C 8 (ci := 4) hL rfl 1 (wd_o1 ad ro c Z L) 6 (by decide) f30 rfl (v := .int (Z 40 0)) rfl dX4_add_8 ?_
    refine j_eqi hz ?_
    refine j_iconst C 11 (v := nI 1) dX4_add_11 rfl ?_
    refine j_iadd_e C 12 dX4_add_12 (nI_add _ _) ?_
    refine j_put C 13 (ci := 4) hL tyX4_ok nmX4 rfl 1 (wd_o1 ad ro c Z L) 6 (by decide) f30 rfl rfl (tyX4_ok 6 (by decide)) rfl rfl (Nat.le_of_ble_eq_true rfl) (wd_p40 ad ro c Z L (nI (n + 1))) dX4_add_13 ?_
    refine j_aload_n C 16 1 dX4_add_16 rfl rfl ?_
    refine j_get C 17 (ci := 4) hL rfl 1 (wd_o1 ad ro c (upR Z 40 (fun _ => nI (n + 1))) L) 0 (by decide) f9 rfl (v := .ref (ad 9)) rfl dX4_add_17 ?_
    refine j_iload C 20 0 dX4_add_20 rfl ?_
    refine j_iload_n C 22 2 dX4_add_22 rfl rfl ?_
    refine j_iast C 23 9 0 (f := Z 9) (wd_a9 ad ro c (upR Z 40 (fun _ => nI (n + 1))) L) rfl (by omega) (by decide) (wd_s9 ad ro c (upR Z 40 (fun _ => nI (n + 1))) L (upd (Z 9) (n) (nI (k)))) dX4_add_23 ?_
    refine j_aload_n C 24 1 dX4_add_24 rfl rfl ?_
    refine j_get C 25 (ci := 4) hL rfl 1 (wd_o1 ad ro c (upR (upR Z 40 (fun _ => nI (n + 1))) 9 (upd (Z 9) (n) (nI (k)))) L) 1 (by decide) f15 rfl (v := .ref (ad 10)) rfl dX4_add_25 ?_
    refine j_iload C 28 0 dX4_add_28 rfl ?_
    refine j_iload_n C 30 3 dX4_add_30 rfl rfl ?_
    refine j_iast C 31 10 0 (f := Z 10) (wd_a10 ad ro c (upR (upR Z 40 (fun _ => nI (n + 1))) 9 (upd (Z 9) (n) (nI (k)))) L) rfl (by omega) (by decide) (wd_s10 ad ro c (upR (upR Z 40 (fun _ => nI (n + 1))) 9 (upd (Z 9) (n) (nI (k)))) L (upd (Z 10) (n) (v))) dX4_add_31 ?_
    refine j_aload_n C 32 1 dX4_add_32 rfl rfl ?_
    refine j_get C 33 (ci := 4) hL rfl 1 (wd_o1 ad ro c (upR (upR (upR Z 40 (fun _ => nI (n + 1))) 9 (upd (Z 9) (n) (nI (k)))) 10 (upd (Z 10) (n) (v))) L) 2 (by decide) f18 rfl (v := .ref (ad 11)) rfl dX4_add_33 ?_
    refine j_iload C 36 0 dX4_add_36 rfl ?_
    refine j_iload_n C 38 4 dX4_add_38 rfl rfl ?_
    refine j_iast C 39 11 0 (f := Z 11) (wd_a11 ad ro c (upR (upR (upR Z 40 (fun _ => nI (n + 1))) 9 (upd (Z 9) (n) (nI (k)))) 10 (upd (Z 10) (n) (v))) L) rfl (by omega) (by decide) (wd_s11 ad ro c (upR (upR (upR Z 40 (fun _ => nI (n + 1))) 9 (upd (Z 9) (n) (nI (k)))) 10 (upd (Z 10) (n) (v))) L (upd (Z 11) (n) (-1))) dX4_add_39 ?_
    refine j_aload_n C 40 1 dX4_add_40 rfl rfl ?_
    refine j_get C 41 (ci := 4) hL rfl 1 (wd_o1 ad ro c (upR (upR (upR (upR Z 40 (fun _ => nI (n + 1))) 9 (upd (Z 9) (n) (nI (k)))) 10 (upd (Z 10) (n) (v))) 11 (upd (Z 11) (n) (-1))) L) 3 (by decide) f21 rfl (v := .ref (ad 12)) rfl dX4_add_41 ?_
    refine j_iload C 44 0 dX4_add_44 rfl ?_
    refine j_iload C 46 5 dX4_add_46 rfl ?_
    refine j_iast C 48 12 0 (f := Z 12) (wd_a12 ad ro c (upR (upR (upR (upR Z 40 (fun _ => nI (n + 1))) 9 (upd (Z 9) (n) (nI (k)))) 10 (upd (Z 10) (n) (v))) 11 (upd (Z 11) (n) (-1))) L) rfl (by omega) (by decide) (wd_s12 ad ro c (upR (upR (upR (upR Z 40 (fun _ => nI (n + 1))) 9 (upd (Z 9) (n) (nI (k)))) 10 (upd (Z 10) (n) (v))) 11 (upd (Z 11) (n) (-1))) L (upd (Z 12) (n) (-1))) dX4_add_48 ?_
    refine j_aload_n C 49 1 dX4_add_49 rfl rfl ?_
    refine j_get C 50 (ci := 4) hL rfl 1 (wd_o1 ad ro c (upR (upR (upR (upR (upR Z 40 (fun _ => nI (n + 1))) 9 (upd (Z 9) (n) (nI (k)))) 10 (upd (Z 10) (n) (v))) 11 (upd (Z 11) (n) (-1))) 12 (upd (Z 12) (n) (-1))) L) 4 (by decide) f24 rfl (v := .ref (ad 13)) rfl dX4_add_50 ?_
    refine j_iload C 53 0 dX4_add_53 rfl ?_
    refine j_iconst C 55 (v := -1) dX4_add_55 rfl ?_
    refine j_iast C 56 13 0 (f := Z 13) (wd_a13 ad ro c (upR (upR (upR (upR (upR Z 40 (fun _ => nI (n + 1))) 9 (upd (Z 9) (n) (nI (k)))) 10 (upd (Z 10) (n) (v))) 11 (upd (Z 11) (n) (-1))) 12 (upd (Z 12) (n) (-1))) L) rfl (by omega) (by decide) (wd_s13 ad ro c (upR (upR (upR (upR (upR Z 40 (fun _ => nI (n + 1))) 9 (upd (Z 9) (n) (nI (k)))) 10 (upd (Z 10) (n) (v))) 11 (upd (Z 11) (n) (-1))) 12 (upd (Z 12) (n) (-1))) L (upd (Z 13) (n) (-1))) dX4_add_56 ?_
    refine j_aload_n C 57 1 dX4_add_57 rfl rfl ?_
    refine j_get C 58 (ci := 4) hL rfl 1 (wd_o1 ad ro c (upR (upR (upR (upR (upR (upR Z 40 (fun _ => nI (n + 1))) 9 (upd (Z 9) (n) (nI (k)))) 10 (upd (Z 10) (n) (v))) 11 (upd (Z 11) (n) (-1))) 12 (upd (Z 12) (n) (-1))) 13 (upd (Z 13) (n) (-1))) L) 5 (by decide) f27 rfl (v := .ref (ad 14)) rfl dX4_add_58 ?_
    refine j_iload C 61 0 dX4_add_61 rfl ?_
    refine j_aload_n C 63 1 dX4_add_63 rfl rfl ?_
    refine j_iload_n C 64 4 dX4_add_64 rfl rfl ?_
    refine j_callI (mc := 0) (ms := 0) C 65 (c_X4_knotsIn (jl κ) D ad ro c (upR (upR (upR (upR (upR (upR Z 40 (fun _ => nI (n + 1))) 9 (upd (Z 9) (n) (nI (k)))) 10 (upd (Z 10) (n) (v))) 11 (upd (Z 11) (n) (-1))) 12 (upd (Z 12) (n) (-1))) 13 (upd (Z 13) (n) (-1))) L (-1) (Or.inl rfl)) gX4_add_X4_knotsIn rfl rfl rfl hd_X4_knotsIn (by rw [hR]; exact ⟨Nat.le_of_ble_eq_true rfl, Nat.le_of_ble_eq_true rfl⟩) (ci := 4) rfl 1 (wd_o1 ad ro c (upR (upR (upR (upR (upR (upR Z 40 (fun _ => nI (n + 1))) 9 (upd (Z 9) (n) (nI (k)))) 10 (upd (Z 10) (n) (v))) 11 (upd (Z 11) (n) (-1))) 12 (upd (Z 12) (n) (-1))) 13 (upd (Z 13) (n) (-1))) L) rfl (Nat.le_of_ble_eq_true rfl) ⟨Nat.zero_le _, Nat.zero_le _⟩ dX4_add_65 (fun r65 _ e65 => ?_)
    refine j_eqi (y := nI 0) (e65.trans (if_pos rfl)) ?_
    refine j_aload_n C 68 1 dX4_add_68 rfl rfl ?_
    refine j_iload C 69 5 dX4_add_69 rfl ?_
    refine j_callI (mc := 0) (ms := 0) C 71 (c_X4_knotsIn (jl κ) D ad ro c (upR (upR (upR (upR (upR (upR Z 40 (fun _ => nI (n + 1))) 9 (upd (Z 9) (n) (nI (k)))) 10 (upd (Z 10) (n) (v))) 11 (upd (Z 11) (n) (-1))) 12 (upd (Z 12) (n) (-1))) 13 (upd (Z 13) (n) (-1))) L (-1) (Or.inl rfl)) gX4_add_X4_knotsIn rfl rfl rfl hd_X4_knotsIn (by rw [hR]; exact ⟨Nat.le_of_ble_eq_true rfl, Nat.le_of_ble_eq_true rfl⟩) (ci := 4) rfl 1 (wd_o1 ad ro c (upR (upR (upR (upR (upR (upR Z 40 (fun _ => nI (n + 1))) 9 (upd (Z 9) (n) (nI (k)))) 10 (upd (Z 10) (n) (v))) 11 (upd (Z 11) (n) (-1))) 12 (upd (Z 12) (n) (-1))) 13 (upd (Z 13) (n) (-1))) L) rfl (Nat.le_of_ble_eq_true rfl) ⟨Nat.zero_le _, Nat.zero_le _⟩ dX4_add_71 (fun r71 _ e71 => ?_)
    refine j_eqi (y := nI 0) (e71.trans (if_pos rfl)) ?_
    refine j_mmax C 74 (C.t (.methodLink RX4 38 Lib.Math.max.name) (mX4_add_o _ (by decide +kernel))) (C.t (.static Lib.Math.max.name) (mX4_add_o _ (by decide +kernel))) (C.t (.initialized "java/lang/Math") (mX4_add_o _ (by decide +kernel))) (C.t (.code Lib.Math.max.name Lib.Math.max.code 2 (some .int)) (mX4_add_o _ (by decide +kernel))) (by rw [hR]; exact ⟨Nat.le_of_ble_eq_true rfl, Nat.le_of_ble_eq_true rfl⟩) ⟨Nat.zero_le _, Nat.zero_le _⟩ dX4_add_74 (e_max (by omega) (by omega)) ?_
    refine j_iload_n C 77 2 dX4_add_77 rfl rfl ?_
    refine j_bipush C 78 (v := nI 6) dX4_add_78 rfl ?_
    refine j_icmp_ne_n C 80 87 (by omega) (by omega) dX4_add_80 (by decide) (fun h80 => ?_) (fun h80 => ?_)
    · refine j_iconst C 87 (v := nI 0) dX4_add_87 rfl ?_
      refine j_iadd_e C 88 dX4_add_88 (nI_add _ _) ?_
      refine j_iast C 89 14 0 (f := Z 14) (wd_a14 ad ro c (upR (upR (upR (upR (upR (upR Z 40 (fun _ => nI (n + 1))) 9 (upd (Z 9) (n) (nI (k)))) 10 (upd (Z 10) (n) (v))) 11 (upd (Z 11) (n) (-1))) 12 (upd (Z 12) (n) (-1))) 13 (upd (Z 13) (n) (-1))) L) rfl (by omega) (by decide) (wd_s14 ad ro c (upR (upR (upR (upR (upR (upR Z 40 (fun _ => nI (n + 1))) 9 (upd (Z 9) (n) (nI (k)))) 10 (upd (Z 10) (n) (v))) 11 (upd (Z 11) (n) (-1))) 12 (upd (Z 12) (n) (-1))) 13 (upd (Z 13) (n) (-1))) L (upd (Z 14) (n) (nI (max (0) (0) + 0)))) dX4_add_89 ?_
      refine j_aload_n C 90 1 dX4_add_90 rfl rfl ?_
      refine j_iload_n C 91 4 dX4_add_91 rfl rfl ?_
      refine j_iload C 92 0 dX4_add_92 rfl ?_
      refine j_callV (mc := 0) (ms := 0) C 94 (c_X4_makePart (jl κ) D ad ro c (upR (upR (upR (upR (upR (upR (upR Z 40 (fun _ => nI (n + 1))) 9 (upd (Z 9) (n) (nI (k)))) 10 (upd (Z 10) (n) (v))) 11 (upd (Z 11) (n) (-1))) 12 (upd (Z 12) (n) (-1))) 13 (upd (Z 13) (n) (-1))) 14 (upd (Z 14) (n) (nI (max (0) (0) + 0)))) L (-1) (nI n) (Or.inl rfl)) gX4_add_X4_makePart rfl rfl rfl hd_X4_makePart (by rw [hR]; exact ⟨Nat.le_of_ble_eq_true rfl, Nat.le_of_ble_eq_true rfl⟩) (ci := 4) rfl 1 (wd_o1 ad ro c (upR (upR (upR (upR (upR (upR (upR Z 40 (fun _ => nI (n + 1))) 9 (upd (Z 9) (n) (nI (k)))) 10 (upd (Z 10) (n) (v))) 11 (upd (Z 11) (n) (-1))) 12 (upd (Z 12) (n) (-1))) 13 (upd (Z 13) (n) (-1))) 14 (upd (Z 14) (n) (nI (max (0) (0) + 0)))) L) rfl (Nat.le_of_ble_eq_true rfl) ⟨Nat.zero_le _, Nat.zero_le _⟩ dX4_add_94 (fun _ _ => ?_)
      refine j_ws (ws' := wd ad ro c (upR (upR (upR (upR (upR (upR (upR Z 40 (fun _ => nI (n + 1))) 9 (upd (Z 9) (n) (nI (k)))) 10 (upd (Z 10) (n) (v))) 11 (upd (Z 11) (n) (-1))) 12 (upd (Z 12) (n) (-1))) 13 (upd (Z 13) (n) (-1))) 14 (upd (Z 14) (n) (nI (max (0) (0) + 0)))) L) (by rw [if_pos rfl]) ?_
      refine j_aload_n C 97 1 dX4_add_97 rfl rfl ?_
      refine j_iload C 98 5 dX4_add_98 rfl ?_
      refine j_iload C 100 0 dX4_add_100 rfl ?_
      refine j_callV (mc := 0) (ms := 0) C 102 (c_X4_makePart (jl κ) D ad ro c (upR (upR (upR (upR (upR (upR (upR Z 40 (fun _ => nI (n + 1))) 9 (upd (Z 9) (n) (nI (k)))) 10 (upd (Z 10) (n) (v))) 11 (upd (Z 11) (n) (-1))) 12 (upd (Z 12) (n) (-1))) 13 (upd (Z 13) (n) (-1))) 14 (upd (Z 14) (n) (nI (max (0) (0) + 0)))) L (-1) (nI n) (Or.inl rfl)) gX4_add_X4_makePart rfl rfl rfl hd_X4_makePart (by rw [hR]; exact ⟨Nat.le_of_ble_eq_true rfl, Nat.le_of_ble_eq_true rfl⟩) (ci := 4) rfl 1 (wd_o1 ad ro c (upR (upR (upR (upR (upR (upR (upR Z 40 (fun _ => nI (n + 1))) 9 (upd (Z 9) (n) (nI (k)))) 10 (upd (Z 10) (n) (v))) 11 (upd (Z 11) (n) (-1))) 12 (upd (Z 12) (n) (-1))) 13 (upd (Z 13) (n) (-1))) 14 (upd (Z 14) (n) (nI (max (0) (0) + 0)))) L) rfl (Nat.le_of_ble_eq_true rfl) ⟨Nat.zero_le _, Nat.zero_le _⟩ dX4_add_102 (fun _ _ => ?_)
      refine j_ws (ws' := wd ad ro c (upR (upR (upR (upR (upR (upR (upR Z 40 (fun _ => nI (n + 1))) 9 (upd (Z 9) (n) (nI (k)))) 10 (upd (Z 10) (n) (v))) 11 (upd (Z 11) (n) (-1))) 12 (upd (Z 12) (n) (-1))) 13 (upd (Z 13) (n) (-1))) 14 (upd (Z 14) (n) (nI (max (0) (0) + 0)))) L) (by rw [if_pos rfl]) ?_
      refine j_iload C 105 0 dX4_add_105 rfl ?_
      exact j_ireti C hr E (Nat.le_refl _) (Nat.le_refl _) rfl (upR (upR (upR (upR (upR (upR (upR Z 40 (fun _ => nI (n + 1))) 9 (upd (Z 9) (n) (nI (k)))) 10 (upd (Z 10) (n) (v))) 11 (upd (Z 11) (n) (-1))) 12 (upd (Z 12) (n) (-1))) 13 (upd (Z 13) (n) (-1))) 14 (upd (Z 14) (n) (nI (max (0) (0) + 0)))) ⟨rfl, g_E_new hE hNC hv rfl rfl rfl rfl rfl rfl (by show upd (Z 14) n _ = upd (Z 14) n (nI (0 + (if k = 6 then 1 else 0))); rw [if_neg h80]; rfl) (e_w0), rfl, (g_fr_up (g_fr_up (g_fr_up (g_fr_up (g_fr_up (g_fr_up (g_fr_up g_fr_rfl (by decide) _) (by decide) _) (by decide) _) (by decide) _) (by decide) _) (by decide) _) (by decide) _)⟩ rfl dX4_add_107
    · refine j_iconst C 83 (v := nI 1) dX4_add_83 rfl ?_
      refine j_goto C 84 88 dX4_add_84 (by decide) ?_
      refine j_iadd_e C 88 dX4_add_88 (nI_add _ _) ?_
      refine j_iast C 89 14 0 (f := Z 14) (wd_a14 ad ro c (upR (upR (upR (upR (upR (upR Z 40 (fun _ => nI (n + 1))) 9 (upd (Z 9) (n) (nI (k)))) 10 (upd (Z 10) (n) (v))) 11 (upd (Z 11) (n) (-1))) 12 (upd (Z 12) (n) (-1))) 13 (upd (Z 13) (n) (-1))) L) rfl (by omega) (by decide) (wd_s14 ad ro c (upR (upR (upR (upR (upR (upR Z 40 (fun _ => nI (n + 1))) 9 (upd (Z 9) (n) (nI (k)))) 10 (upd (Z 10) (n) (v))) 11 (upd (Z 11) (n) (-1))) 12 (upd (Z 12) (n) (-1))) 13 (upd (Z 13) (n) (-1))) L (upd (Z 14) (n) (nI (max (0) (0) + 1)))) dX4_add_89 ?_
      refine j_aload_n C 90 1 dX4_add_90 rfl rfl ?_
      refine j_iload_n C 91 4 dX4_add_91 rfl rfl ?_
      refine j_iload C 92 0 dX4_add_92 rfl ?_
      refine j_callV (mc := 0) (ms := 0) C 94 (c_X4_makePart (jl κ) D ad ro c (upR (upR (upR (upR (upR (upR (upR Z 40 (fun _ => nI (n + 1))) 9 (upd (Z 9) (n) (nI (k)))) 10 (upd (Z 10) (n) (v))) 11 (upd (Z 11) (n) (-1))) 12 (upd (Z 12) (n) (-1))) 13 (upd (Z 13) (n) (-1))) 14 (upd (Z 14) (n) (nI (max (0) (0) + 1)))) L (-1) (nI n) (Or.inl rfl)) gX4_add_X4_makePart rfl rfl rfl hd_X4_makePart (by rw [hR]; exact ⟨Nat.le_of_ble_eq_true rfl, Nat.le_of_ble_eq_true rfl⟩) (ci := 4) rfl 1 (wd_o1 ad ro c (upR (upR (upR (upR (upR (upR (upR Z 40 (fun _ => nI (n + 1))) 9 (upd (Z 9) (n) (nI (k)))) 10 (upd (Z 10) (n) (v))) 11 (upd (Z 11) (n) (-1))) 12 (upd (Z 12) (n) (-1))) 13 (upd (Z 13) (n) (-1))) 14 (upd (Z 14) (n) (nI (max (0) (0) + 1)))) L) rfl (Nat.le_of_ble_eq_true rfl) ⟨Nat.zero_le _, Nat.zero_le _⟩ dX4_add_94 (fun _ _ => ?_)
      refine j_ws (ws' := wd ad ro c (upR (upR (upR (upR (upR (upR (upR Z 40 (fun _ => nI (n + 1))) 9 (upd (Z 9) (n) (nI (k)))) 10 (upd (Z 10) (n) (v))) 11 (upd (Z 11) (n) (-1))) 12 (upd (Z 12) (n) (-1))) 13 (upd (Z 13) (n) (-1))) 14 (upd (Z 14) (n) (nI (max (0) (0) + 1)))) L) (by rw [if_pos rfl]) ?_
      refine j_aload_n C 97 1 dX4_add_97 rfl rfl ?_
      refine j_iload C 98 5 dX4_add_98 rfl ?_
      refine j_iload C 100 0 dX4_add_100 rfl ?_
      refine j_callV (mc := 0) (ms := 0) C 102 (c_X4_makePart (jl κ) D ad ro c (upR (upR (upR (upR (upR (upR (upR Z 40 (fun _ => nI (n + 1))) 9 (upd (Z 9) (n) (nI (k)))) 10 (upd (Z 10) (n) (v))) 11 (upd (Z 11) (n) (-1))) 12 (upd (Z 12) (n) (-1))) 13 (upd (Z 13) (n) (-1))) 14 (upd (Z 14) (n) (nI (max (0) (0) + 1)))) L (-1) (nI n) (Or.inl rfl)) gX4_add_X4_makePart rfl rfl rfl hd_X4_makePart (by rw [hR]; exact ⟨Nat.le_of_ble_eq_true rfl, Nat.le_of_ble_eq_true rfl⟩) (ci := 4) rfl 1 (wd_o1 ad ro c (upR (upR (upR (upR (upR (upR (upR Z 40 (fun _ => nI (n + 1))) 9 (upd (Z 9) (n) (nI (k)))) 10 (upd (Z 10) (n) (v))) 11 (upd (Z 11) (n) (-1))) 12 (upd (Z 12) (n) (-1))) 13 (upd (Z 13) (n) (-1))) 14 (upd (Z 14) (n) (nI (max (0) (0) + 1)))) L) rfl (Nat.le_of_ble_eq_true rfl) ⟨Nat.zero_le _, Nat.zero_le _⟩ dX4_add_102 (fun _ _ => ?_)
      refine j_ws (ws' := wd ad ro c (upR (upR (upR (upR (upR (upR (upR Z 40 (fun _ => nI (n + 1))) 9 (upd (Z 9) (n) (nI (k)))) 10 (upd (Z 10) (n) (v))) 11 (upd (Z 11) (n) (-1))) 12 (upd (Z 12) (n) (-1))) 13 (upd (Z 13) (n) (-1))) 14 (upd (Z 14) (n) (nI (max (0) (0) + 1)))) L) (by rw [if_pos rfl]) ?_
      refine j_iload C 105 0 dX4_add_105 rfl ?_
      exact j_ireti C hr E (Nat.le_refl _) (Nat.le_refl _) rfl (upR (upR (upR (upR (upR (upR (upR Z 40 (fun _ => nI (n + 1))) 9 (upd (Z 9) (n) (nI (k)))) 10 (upd (Z 10) (n) (v))) 11 (upd (Z 11) (n) (-1))) 12 (upd (Z 12) (n) (-1))) 13 (upd (Z 13) (n) (-1))) 14 (upd (Z 14) (n) (nI (max (0) (0) + 1)))) ⟨rfl, g_E_new hE hNC hv rfl rfl rfl rfl rfl rfl (by show upd (Z 14) n _ = upd (Z 14) n (nI (0 + (if k = 6 then 1 else 0))); rw [if_pos h80]; rfl) (e_w0), rfl, (g_fr_up (g_fr_up (g_fr_up (g_fr_up (g_fr_up (g_fr_up (g_fr_up g_fr_rfl (by decide) _) (by decide) _) (by decide) _) (by decide) _) (by decide) _) (by decide) _) (by decide) _)⟩ rfl dX4_add_107
  · change l = nI a at hl
    change r = -1 at hr2
    subst hl
    subst hr2
    have hac := (hcl a (by simp)).1
    have ha3 := (hE a hac).2.2.2.2.2
    refine j_aload_n C 0 0 dX4_add_0 rfl rfl ?_
    refine j_get C 1 (ci := 4) hL rfl 1 (wd_o1 ad ro c Z L) 6 (by decide) f30 rfl (v := .int (Z 40 0)) rfl dX4_add_1 ?_
    refine j_eqi hz ?_
    refine j_istore C 4 (lv' := [(5, .int (nI (n))), (0, .ref (ad 1)), (1, .int (nI (k))), (2, .int (v)), (3, .int (nI (a))), (4, .int (-1))]) dX4_add_4 (by rw [hn]; decide) rfl ?_
    refine j_aload_n C 6 1 dX4_add_6 rfl rfl ?_
    refine j_dup C 7 dX4_add_7 rfl ?_
    refine j_get C 8 (ci := 4) hL rfl 1 (wd_o1 ad ro c Z L) 6 (by decide) f30 rfl (v := .int (Z 40 0)) rfl dX4_add_8 ?_
    refine j_eqi hz ?_
    refine j_iconst C 11 (v := nI 1) dX4_add_11 rfl ?_
    refine j_iadd_e C 12 dX4_add_12 (nI_add _ _) ?_
    refine j_put C 13 (ci := 4) hL tyX4_ok nmX4 rfl 1 (wd_o1 ad ro c Z L) 6 (by decide) f30 rfl rfl (tyX4_ok 6 (by decide)) rfl rfl (Nat.le_of_ble_eq_true rfl) (wd_p40 ad ro c Z L (nI (n + 1))) dX4_add_13 ?_
    refine j_aload_n C 16 1 dX4_add_16 rfl rfl ?_
    refine j_get C 17 (ci := 4) hL rfl 1 (wd_o1 ad ro c (upR Z 40 (fun _ => nI (n + 1))) L) 0 (by decide) f9 rfl (v := .ref (ad 9)) rfl dX4_add_17 ?_
    refine j_iload C 20 0 dX4_add_20 rfl ?_
    refine j_iload_n C 22 2 dX4_add_22 rfl rfl ?_
    refine j_iast C 23 9 0 (f := Z 9) (wd_a9 ad ro c (upR Z 40 (fun _ => nI (n + 1))) L) rfl (by omega) (by decide) (wd_s9 ad ro c (upR Z 40 (fun _ => nI (n + 1))) L (upd (Z 9) (n) (nI (k)))) dX4_add_23 ?_
    refine j_aload_n C 24 1 dX4_add_24 rfl rfl ?_
    refine j_get C 25 (ci := 4) hL rfl 1 (wd_o1 ad ro c (upR (upR Z 40 (fun _ => nI (n + 1))) 9 (upd (Z 9) (n) (nI (k)))) L) 1 (by decide) f15 rfl (v := .ref (ad 10)) rfl dX4_add_25 ?_
    refine j_iload C 28 0 dX4_add_28 rfl ?_
    refine j_iload_n C 30 3 dX4_add_30 rfl rfl ?_
    refine j_iast C 31 10 0 (f := Z 10) (wd_a10 ad ro c (upR (upR Z 40 (fun _ => nI (n + 1))) 9 (upd (Z 9) (n) (nI (k)))) L) rfl (by omega) (by decide) (wd_s10 ad ro c (upR (upR Z 40 (fun _ => nI (n + 1))) 9 (upd (Z 9) (n) (nI (k)))) L (upd (Z 10) (n) (v))) dX4_add_31 ?_
    refine j_aload_n C 32 1 dX4_add_32 rfl rfl ?_
    refine j_get C 33 (ci := 4) hL rfl 1 (wd_o1 ad ro c (upR (upR (upR Z 40 (fun _ => nI (n + 1))) 9 (upd (Z 9) (n) (nI (k)))) 10 (upd (Z 10) (n) (v))) L) 2 (by decide) f18 rfl (v := .ref (ad 11)) rfl dX4_add_33 ?_
    refine j_iload C 36 0 dX4_add_36 rfl ?_
    refine j_iload_n C 38 4 dX4_add_38 rfl rfl ?_
    refine j_iast C 39 11 0 (f := Z 11) (wd_a11 ad ro c (upR (upR (upR Z 40 (fun _ => nI (n + 1))) 9 (upd (Z 9) (n) (nI (k)))) 10 (upd (Z 10) (n) (v))) L) rfl (by omega) (by decide) (wd_s11 ad ro c (upR (upR (upR Z 40 (fun _ => nI (n + 1))) 9 (upd (Z 9) (n) (nI (k)))) 10 (upd (Z 10) (n) (v))) L (upd (Z 11) (n) (nI (a)))) dX4_add_39 ?_
    refine j_aload_n C 40 1 dX4_add_40 rfl rfl ?_
    refine j_get C 41 (ci := 4) hL rfl 1 (wd_o1 ad ro c (upR (upR (upR (upR Z 40 (fun _ => nI (n + 1))) 9 (upd (Z 9) (n) (nI (k)))) 10 (upd (Z 10) (n) (v))) 11 (upd (Z 11) (n) (nI (a)))) L) 3 (by decide) f21 rfl (v := .ref (ad 12)) rfl dX4_add_41 ?_
    refine j_iload C 44 0 dX4_add_44 rfl ?_
    refine j_iload C 46 5 dX4_add_46 rfl ?_
    refine j_iast C 48 12 0 (f := Z 12) (wd_a12 ad ro c (upR (upR (upR (upR Z 40 (fun _ => nI (n + 1))) 9 (upd (Z 9) (n) (nI (k)))) 10 (upd (Z 10) (n) (v))) 11 (upd (Z 11) (n) (nI (a)))) L) rfl (by omega) (by decide) (wd_s12 ad ro c (upR (upR (upR (upR Z 40 (fun _ => nI (n + 1))) 9 (upd (Z 9) (n) (nI (k)))) 10 (upd (Z 10) (n) (v))) 11 (upd (Z 11) (n) (nI (a)))) L (upd (Z 12) (n) (-1))) dX4_add_48 ?_
    refine j_aload_n C 49 1 dX4_add_49 rfl rfl ?_
    refine j_get C 50 (ci := 4) hL rfl 1 (wd_o1 ad ro c (upR (upR (upR (upR (upR Z 40 (fun _ => nI (n + 1))) 9 (upd (Z 9) (n) (nI (k)))) 10 (upd (Z 10) (n) (v))) 11 (upd (Z 11) (n) (nI (a)))) 12 (upd (Z 12) (n) (-1))) L) 4 (by decide) f24 rfl (v := .ref (ad 13)) rfl dX4_add_50 ?_
    refine j_iload C 53 0 dX4_add_53 rfl ?_
    refine j_iconst C 55 (v := -1) dX4_add_55 rfl ?_
    refine j_iast C 56 13 0 (f := Z 13) (wd_a13 ad ro c (upR (upR (upR (upR (upR Z 40 (fun _ => nI (n + 1))) 9 (upd (Z 9) (n) (nI (k)))) 10 (upd (Z 10) (n) (v))) 11 (upd (Z 11) (n) (nI (a)))) 12 (upd (Z 12) (n) (-1))) L) rfl (by omega) (by decide) (wd_s13 ad ro c (upR (upR (upR (upR (upR Z 40 (fun _ => nI (n + 1))) 9 (upd (Z 9) (n) (nI (k)))) 10 (upd (Z 10) (n) (v))) 11 (upd (Z 11) (n) (nI (a)))) 12 (upd (Z 12) (n) (-1))) L (upd (Z 13) (n) (-1))) dX4_add_56 ?_
    refine j_aload_n C 57 1 dX4_add_57 rfl rfl ?_
    refine j_get C 58 (ci := 4) hL rfl 1 (wd_o1 ad ro c (upR (upR (upR (upR (upR (upR Z 40 (fun _ => nI (n + 1))) 9 (upd (Z 9) (n) (nI (k)))) 10 (upd (Z 10) (n) (v))) 11 (upd (Z 11) (n) (nI (a)))) 12 (upd (Z 12) (n) (-1))) 13 (upd (Z 13) (n) (-1))) L) 5 (by decide) f27 rfl (v := .ref (ad 14)) rfl dX4_add_58 ?_
    refine j_iload C 61 0 dX4_add_61 rfl ?_
    refine j_aload_n C 63 1 dX4_add_63 rfl rfl ?_
    refine j_iload_n C 64 4 dX4_add_64 rfl rfl ?_
    refine j_callI (mc := 0) (ms := 0) C 65 (c_X4_knotsIn (jl κ) D ad ro c (upR (upR (upR (upR (upR (upR Z 40 (fun _ => nI (n + 1))) 9 (upd (Z 9) (n) (nI (k)))) 10 (upd (Z 10) (n) (v))) 11 (upd (Z 11) (n) (nI (a)))) 12 (upd (Z 12) (n) (-1))) 13 (upd (Z 13) (n) (-1))) L (nI a) (Or.inr ⟨a, by omega, rfl⟩)) gX4_add_X4_knotsIn rfl rfl rfl hd_X4_knotsIn (by rw [hR]; exact ⟨Nat.le_of_ble_eq_true rfl, Nat.le_of_ble_eq_true rfl⟩) (ci := 4) rfl 1 (wd_o1 ad ro c (upR (upR (upR (upR (upR (upR Z 40 (fun _ => nI (n + 1))) 9 (upd (Z 9) (n) (nI (k)))) 10 (upd (Z 10) (n) (v))) 11 (upd (Z 11) (n) (nI (a)))) 12 (upd (Z 12) (n) (-1))) 13 (upd (Z 13) (n) (-1))) L) rfl (Nat.le_of_ble_eq_true rfl) ⟨Nat.zero_le _, Nat.zero_le _⟩ dX4_add_65 (fun r65 _ e65 => ?_)
    refine j_eqi (y := nI (τ 6 a)) (e65.trans ((if_neg (e_nm1 (by omega))).trans (by rw [nI_clamp (by omega)]; exact ha3.1))) ?_
    refine j_aload_n C 68 1 dX4_add_68 rfl rfl ?_
    refine j_iload C 69 5 dX4_add_69 rfl ?_
    refine j_callI (mc := 0) (ms := 0) C 71 (c_X4_knotsIn (jl κ) D ad ro c (upR (upR (upR (upR (upR (upR Z 40 (fun _ => nI (n + 1))) 9 (upd (Z 9) (n) (nI (k)))) 10 (upd (Z 10) (n) (v))) 11 (upd (Z 11) (n) (nI (a)))) 12 (upd (Z 12) (n) (-1))) 13 (upd (Z 13) (n) (-1))) L (-1) (Or.inl rfl)) gX4_add_X4_knotsIn rfl rfl rfl hd_X4_knotsIn (by rw [hR]; exact ⟨Nat.le_of_ble_eq_true rfl, Nat.le_of_ble_eq_true rfl⟩) (ci := 4) rfl 1 (wd_o1 ad ro c (upR (upR (upR (upR (upR (upR Z 40 (fun _ => nI (n + 1))) 9 (upd (Z 9) (n) (nI (k)))) 10 (upd (Z 10) (n) (v))) 11 (upd (Z 11) (n) (nI (a)))) 12 (upd (Z 12) (n) (-1))) 13 (upd (Z 13) (n) (-1))) L) rfl (Nat.le_of_ble_eq_true rfl) ⟨Nat.zero_le _, Nat.zero_le _⟩ dX4_add_71 (fun r71 _ e71 => ?_)
    refine j_eqi (y := nI 0) (e71.trans (if_pos rfl)) ?_
    refine j_mmax C 74 (C.t (.methodLink RX4 38 Lib.Math.max.name) (mX4_add_o _ (by decide +kernel))) (C.t (.static Lib.Math.max.name) (mX4_add_o _ (by decide +kernel))) (C.t (.initialized "java/lang/Math") (mX4_add_o _ (by decide +kernel))) (C.t (.code Lib.Math.max.name Lib.Math.max.code 2 (some .int)) (mX4_add_o _ (by decide +kernel))) (by rw [hR]; exact ⟨Nat.le_of_ble_eq_true rfl, Nat.le_of_ble_eq_true rfl⟩) ⟨Nat.zero_le _, Nat.zero_le _⟩ dX4_add_74 (e_max (by omega) (by omega)) ?_
    refine j_iload_n C 77 2 dX4_add_77 rfl rfl ?_
    refine j_bipush C 78 (v := nI 6) dX4_add_78 rfl ?_
    refine j_icmp_ne_n C 80 87 (by omega) (by omega) dX4_add_80 (by decide) (fun h80 => ?_) (fun h80 => ?_)
    · refine j_iconst C 87 (v := nI 0) dX4_add_87 rfl ?_
      refine j_iadd_e C 88 dX4_add_88 (nI_add _ _) ?_
      refine j_iast C 89 14 0 (f := Z 14) (wd_a14 ad ro c (upR (upR (upR (upR (upR (upR Z 40 (fun _ => nI (n + 1))) 9 (upd (Z 9) (n) (nI (k)))) 10 (upd (Z 10) (n) (v))) 11 (upd (Z 11) (n) (nI (a)))) 12 (upd (Z 12) (n) (-1))) 13 (upd (Z 13) (n) (-1))) L) rfl (by omega) (by decide) (wd_s14 ad ro c (upR (upR (upR (upR (upR (upR Z 40 (fun _ => nI (n + 1))) 9 (upd (Z 9) (n) (nI (k)))) 10 (upd (Z 10) (n) (v))) 11 (upd (Z 11) (n) (nI (a)))) 12 (upd (Z 12) (n) (-1))) 13 (upd (Z 13) (n) (-1))) L (upd (Z 14) (n) (nI (max (τ 6 a) (0) + 0)))) dX4_add_89 ?_
      refine j_aload_n C 90 1 dX4_add_90 rfl rfl ?_
      refine j_iload_n C 91 4 dX4_add_91 rfl rfl ?_
      refine j_iload C 92 0 dX4_add_92 rfl ?_
      refine j_callV (mc := 0) (ms := 0) C 94 (c_X4_makePart (jl κ) D ad ro c (upR (upR (upR (upR (upR (upR (upR Z 40 (fun _ => nI (n + 1))) 9 (upd (Z 9) (n) (nI (k)))) 10 (upd (Z 10) (n) (v))) 11 (upd (Z 11) (n) (nI (a)))) 12 (upd (Z 12) (n) (-1))) 13 (upd (Z 13) (n) (-1))) 14 (upd (Z 14) (n) (nI (max (τ 6 a) (0) + 0)))) L (nI a) (nI n) (Or.inr ⟨a, by omega, rfl⟩)) gX4_add_X4_makePart rfl rfl rfl hd_X4_makePart (by rw [hR]; exact ⟨Nat.le_of_ble_eq_true rfl, Nat.le_of_ble_eq_true rfl⟩) (ci := 4) rfl 1 (wd_o1 ad ro c (upR (upR (upR (upR (upR (upR (upR Z 40 (fun _ => nI (n + 1))) 9 (upd (Z 9) (n) (nI (k)))) 10 (upd (Z 10) (n) (v))) 11 (upd (Z 11) (n) (nI (a)))) 12 (upd (Z 12) (n) (-1))) 13 (upd (Z 13) (n) (-1))) 14 (upd (Z 14) (n) (nI (max (τ 6 a) (0) + 0)))) L) rfl (Nat.le_of_ble_eq_true rfl) ⟨Nat.zero_le _, Nat.zero_le _⟩ dX4_add_94 (fun _ _ => ?_)
      refine j_ws (ws' := wd ad ro c (upR (upR (upR (upR (upR (upR (upR (upR Z 40 (fun _ => nI (n + 1))) 9 (upd (Z 9) (n) (nI (k)))) 10 (upd (Z 10) (n) (v))) 11 (upd (Z 11) (n) (nI (a)))) 12 (upd (Z 12) (n) (-1))) 13 (upd (Z 13) (n) (-1))) 14 (upd (Z 14) (n) (nI (max (τ 6 a) (0) + 0)))) 13 (upd (upd (Z 13) (n) (-1)) a (nI n))) L) (by rw [if_neg (e_nm1 (by omega)), nI_clamp (by omega)]; rfl) ?_
      refine j_aload_n C 97 1 dX4_add_97 rfl rfl ?_
      refine j_iload C 98 5 dX4_add_98 rfl ?_
      refine j_iload C 100 0 dX4_add_100 rfl ?_
      refine j_callV (mc := 0) (ms := 0) C 102 (c_X4_makePart (jl κ) D ad ro c (upR (upR (upR (upR (upR (upR (upR (upR Z 40 (fun _ => nI (n + 1))) 9 (upd (Z 9) (n) (nI (k)))) 10 (upd (Z 10) (n) (v))) 11 (upd (Z 11) (n) (nI (a)))) 12 (upd (Z 12) (n) (-1))) 13 (upd (Z 13) (n) (-1))) 14 (upd (Z 14) (n) (nI (max (τ 6 a) (0) + 0)))) 13 (upd (upd (Z 13) (n) (-1)) a (nI n))) L (-1) (nI n) (Or.inl rfl)) gX4_add_X4_makePart rfl rfl rfl hd_X4_makePart (by rw [hR]; exact ⟨Nat.le_of_ble_eq_true rfl, Nat.le_of_ble_eq_true rfl⟩) (ci := 4) rfl 1 (wd_o1 ad ro c (upR (upR (upR (upR (upR (upR (upR (upR Z 40 (fun _ => nI (n + 1))) 9 (upd (Z 9) (n) (nI (k)))) 10 (upd (Z 10) (n) (v))) 11 (upd (Z 11) (n) (nI (a)))) 12 (upd (Z 12) (n) (-1))) 13 (upd (Z 13) (n) (-1))) 14 (upd (Z 14) (n) (nI (max (τ 6 a) (0) + 0)))) 13 (upd (upd (Z 13) (n) (-1)) a (nI n))) L) rfl (Nat.le_of_ble_eq_true rfl) ⟨Nat.zero_le _, Nat.zero_le _⟩ dX4_add_102 (fun _ _ => ?_)
      refine j_ws (ws' := wd ad ro c (upR (upR (upR (upR (upR (upR (upR (upR Z 40 (fun _ => nI (n + 1))) 9 (upd (Z 9) (n) (nI (k)))) 10 (upd (Z 10) (n) (v))) 11 (upd (Z 11) (n) (nI (a)))) 12 (upd (Z 12) (n) (-1))) 13 (upd (Z 13) (n) (-1))) 14 (upd (Z 14) (n) (nI (max (τ 6 a) (0) + 0)))) 13 (upd (upd (Z 13) (n) (-1)) a (nI n))) L) (by rw [if_pos rfl]) ?_
      refine j_iload C 105 0 dX4_add_105 rfl ?_
      exact j_ireti C hr E (Nat.le_refl _) (Nat.le_refl _) rfl (upR (upR (upR (upR (upR (upR (upR (upR Z 40 (fun _ => nI (n + 1))) 9 (upd (Z 9) (n) (nI (k)))) 10 (upd (Z 10) (n) (v))) 11 (upd (Z 11) (n) (nI (a)))) 12 (upd (Z 12) (n) (-1))) 13 (upd (Z 13) (n) (-1))) 14 (upd (Z 14) (n) (nI (max (τ 6 a) (0) + 0)))) 13 (upd (upd (Z 13) (n) (-1)) a (nI n))) ⟨rfl, g_E_new hE hNC hv rfl rfl rfl rfl rfl rfl (by show upd (Z 14) n _ = upd (Z 14) n (nI (τ 6 a + (if k = 6 then 1 else 0))); rw [if_neg h80, Nat.max_eq_left (Nat.zero_le _)]) (e_w1 hac), rfl, (g_fr_up (g_fr_up (g_fr_up (g_fr_up (g_fr_up (g_fr_up (g_fr_up (g_fr_up g_fr_rfl (by decide) _) (by decide) _) (by decide) _) (by decide) _) (by decide) _) (by decide) _) (by decide) _) (by decide) _)⟩ rfl dX4_add_107
    · refine j_iconst C 83 (v := nI 1) dX4_add_83 rfl ?_
      refine j_goto C 84 88 dX4_add_84 (by decide) ?_
      refine j_iadd_e C 88 dX4_add_88 (nI_add _ _) ?_
      refine j_iast C 89 14 0 (f := Z 14) (wd_a14 ad ro c (upR (upR (upR (upR (upR (upR Z 40 (fun _ => nI (n + 1))) 9 (upd (Z 9) (n) (nI (k)))) 10 (upd (Z 10) (n) (v))) 11 (upd (Z 11) (n) (nI (a)))) 12 (upd (Z 12) (n) (-1))) 13 (upd (Z 13) (n) (-1))) L) rfl (by omega) (by decide) (wd_s14 ad ro c (upR (upR (upR (upR (upR (upR Z 40 (fun _ => nI (n + 1))) 9 (upd (Z 9) (n) (nI (k)))) 10 (upd (Z 10) (n) (v))) 11 (upd (Z 11) (n) (nI (a)))) 12 (upd (Z 12) (n) (-1))) 13 (upd (Z 13) (n) (-1))) L (upd (Z 14) (n) (nI (max (τ 6 a) (0) + 1)))) dX4_add_89 ?_
      refine j_aload_n C 90 1 dX4_add_90 rfl rfl ?_
      refine j_iload_n C 91 4 dX4_add_91 rfl rfl ?_
      refine j_iload C 92 0 dX4_add_92 rfl ?_
      refine j_callV (mc := 0) (ms := 0) C 94 (c_X4_makePart (jl κ) D ad ro c (upR (upR (upR (upR (upR (upR (upR Z 40 (fun _ => nI (n + 1))) 9 (upd (Z 9) (n) (nI (k)))) 10 (upd (Z 10) (n) (v))) 11 (upd (Z 11) (n) (nI (a)))) 12 (upd (Z 12) (n) (-1))) 13 (upd (Z 13) (n) (-1))) 14 (upd (Z 14) (n) (nI (max (τ 6 a) (0) + 1)))) L (nI a) (nI n) (Or.inr ⟨a, by omega, rfl⟩)) gX4_add_X4_makePart rfl rfl rfl hd_X4_makePart (by rw [hR]; exact ⟨Nat.le_of_ble_eq_true rfl, Nat.le_of_ble_eq_true rfl⟩) (ci := 4) rfl 1 (wd_o1 ad ro c (upR (upR (upR (upR (upR (upR (upR Z 40 (fun _ => nI (n + 1))) 9 (upd (Z 9) (n) (nI (k)))) 10 (upd (Z 10) (n) (v))) 11 (upd (Z 11) (n) (nI (a)))) 12 (upd (Z 12) (n) (-1))) 13 (upd (Z 13) (n) (-1))) 14 (upd (Z 14) (n) (nI (max (τ 6 a) (0) + 1)))) L) rfl (Nat.le_of_ble_eq_true rfl) ⟨Nat.zero_le _, Nat.zero_le _⟩ dX4_add_94 (fun _ _ => ?_)
      refine j_ws (ws' := wd ad ro c (upR (upR (upR (upR (upR (upR (upR (upR Z 40 (fun _ => nI (n + 1))) 9 (upd (Z 9) (n) (nI (k)))) 10 (upd (Z 10) (n) (v))) 11 (upd (Z 11) (n) (nI (a)))) 12 (upd (Z 12) (n) (-1))) 13 (upd (Z 13) (n) (-1))) 14 (upd (Z 14) (n) (nI (max (τ 6 a) (0) + 1)))) 13 (upd (upd (Z 13) (n) (-1)) a (nI n))) L) (by rw [if_neg (e_nm1 (by omega)), nI_clamp (by omega)]; rfl) ?_
      refine j_aload_n C 97 1 dX4_add_97 rfl rfl ?_
      refine j_iload C 98 5 dX4_add_98 rfl ?_
      refine j_iload C 100 0 dX4_add_100 rfl ?_
      refine j_callV (mc := 0) (ms := 0) C 102 (c_X4_makePart (jl κ) D ad ro c (upR (upR (upR (upR (upR (upR (upR (upR Z 40 (fun _ => nI (n + 1))) 9 (upd (Z 9) (n) (nI (k)))) 10 (upd (Z 10) (n) (v))) 11 (upd (Z 11) (n) (nI (a)))) 12 (upd (Z 12) (n) (-1))) 13 (upd (Z 13) (n) (-1))) 14 (upd (Z 14) (n) (nI (max (τ 6 a) (0) + 1)))) 13 (upd (upd (Z 13) (n) (-1)) a (nI n))) L (-1) (nI n) (Or.inl rfl)) gX4_add_X4_makePart rfl rfl rfl hd_X4_makePart (by rw [hR]; exact ⟨Nat.le_of_ble_eq_true rfl, Nat.le_of_ble_eq_true rfl⟩) (ci := 4) rfl 1 (wd_o1 ad ro c (upR (upR (upR (upR (upR (upR (upR (upR Z 40 (fun _ => nI (n + 1))) 9 (upd (Z 9) (n) (nI (k)))) 10 (upd (Z 10) (n) (v))) 11 (upd (Z 11) (n) (nI (a)))) 12 (upd (Z 12) (n) (-1))) 13 (upd (Z 13) (n) (-1))) 14 (upd (Z 14) (n) (nI (max (τ 6 a) (0) + 1)))) 13 (upd (upd (Z 13) (n) (-1)) a (nI n))) L) rfl (Nat.le_of_ble_eq_true rfl) ⟨Nat.zero_le _, Nat.zero_le _⟩ dX4_add_102 (fun _ _ => ?_)
      refine j_ws (ws' := wd ad ro c (upR (upR (upR (upR (upR (upR (upR (upR Z 40 (fun _ => nI (n + 1))) 9 (upd (Z 9) (n) (nI (k)))) 10 (upd (Z 10) (n) (v))) 11 (upd (Z 11) (n) (nI (a)))) 12 (upd (Z 12) (n) (-1))) 13 (upd (Z 13) (n) (-1))) 14 (upd (Z 14) (n) (nI (max (τ 6 a) (0) + 1)))) 13 (upd (upd (Z 13) (n) (-1)) a (nI n))) L) (by rw [if_pos rfl]) ?_
      refine j_iload C 105 0 dX4_add_105 rfl ?_
      exact j_ireti C hr E (Nat.le_refl _) (Nat.le_refl _) rfl (upR (upR (upR (upR (upR (upR (upR (upR Z 40 (fun _ => nI (n + 1))) 9 (upd (Z 9) (n) (nI (k)))) 10 (upd (Z 10) (n) (v))) 11 (upd (Z 11) (n) (nI (a)))) 12 (upd (Z 12) (n) (-1))) 13 (upd (Z 13) (n) (-1))) 14 (upd (Z 14) (n) (nI (max (τ 6 a) (0) + 1)))) 13 (upd (upd (Z 13) (n) (-1)) a (nI n))) ⟨rfl, g_E_new hE hNC hv rfl rfl rfl rfl rfl rfl (by show upd (Z 14) n _ = upd (Z 14) n (nI (τ 6 a + (if k = 6 then 1 else 0))); rw [if_pos h80, Nat.max_eq_left (Nat.zero_le _)]) (e_w1 hac), rfl, (g_fr_up (g_fr_up (g_fr_up (g_fr_up (g_fr_up (g_fr_up (g_fr_up (g_fr_up g_fr_rfl (by decide) _) (by decide) _) (by decide) _) (by decide) _) (by decide) _) (by decide) _) (by decide) _) (by decide) _)⟩ rfl dX4_add_107
  · change l = nI a at hl
    change r = nI b at hr2
    subst hl
    subst hr2
    have hac := (hcl a (by simp)).1
    have ha3 := (hE a hac).2.2.2.2.2
    have hbc := (hcl b (by simp)).1
    have hb3 := (hE b hbc).2.2.2.2.2
    refine j_aload_n C 0 0 dX4_add_0 rfl rfl ?_
    refine j_get C 1 (ci := 4) hL rfl 1 (wd_o1 ad ro c Z L) 6 (by decide) f30 rfl (v := .int (Z 40 0)) rfl dX4_add_1 ?_
    refine j_eqi hz ?_
    refine j_istore C 4 (lv' := [(5, .int (nI (n))), (0, .ref (ad 1)), (1, .int (nI (k))), (2, .int (v)), (3, .int (nI (a))), (4, .int (nI (b)))]) dX4_add_4 (by rw [hn]; decide) rfl ?_
    refine j_aload_n C 6 1 dX4_add_6 rfl rfl ?_
    refine j_dup C 7 dX4_add_7 rfl ?_
    refine j_get C 8 (ci := 4) hL rfl 1 (wd_o1 ad ro c Z L) 6 (by decide) f30 rfl (v := .int (Z 40 0)) rfl dX4_add_8 ?_
    refine j_eqi hz ?_
    refine j_iconst C 11 (v := nI 1) dX4_add_11 rfl ?_
    refine j_iadd_e C 12 dX4_add_12 (nI_add _ _) ?_
    refine j_put C 13 (ci := 4) hL tyX4_ok nmX4 rfl 1 (wd_o1 ad ro c Z L) 6 (by decide) f30 rfl rfl (tyX4_ok 6 (by decide)) rfl rfl (Nat.le_of_ble_eq_true rfl) (wd_p40 ad ro c Z L (nI (n + 1))) dX4_add_13 ?_
    refine j_aload_n C 16 1 dX4_add_16 rfl rfl ?_
    refine j_get C 17 (ci := 4) hL rfl 1 (wd_o1 ad ro c (upR Z 40 (fun _ => nI (n + 1))) L) 0 (by decide) f9 rfl (v := .ref (ad 9)) rfl dX4_add_17 ?_
    refine j_iload C 20 0 dX4_add_20 rfl ?_
    refine j_iload_n C 22 2 dX4_add_22 rfl rfl ?_
    refine j_iast C 23 9 0 (f := Z 9) (wd_a9 ad ro c (upR Z 40 (fun _ => nI (n + 1))) L) rfl (by omega) (by decide) (wd_s9 ad ro c (upR Z 40 (fun _ => nI (n + 1))) L (upd (Z 9) (n) (nI (k)))) dX4_add_23 ?_
    refine j_aload_n C 24 1 dX4_add_24 rfl rfl ?_
    refine j_get C 25 (ci := 4) hL rfl 1 (wd_o1 ad ro c (upR (upR Z 40 (fun _ => nI (n + 1))) 9 (upd (Z 9) (n) (nI (k)))) L) 1 (by decide) f15 rfl (v := .ref (ad 10)) rfl dX4_add_25 ?_
    refine j_iload C 28 0 dX4_add_28 rfl ?_
    refine j_iload_n C 30 3 dX4_add_30 rfl rfl ?_
    refine j_iast C 31 10 0 (f := Z 10) (wd_a10 ad ro c (upR (upR Z 40 (fun _ => nI (n + 1))) 9 (upd (Z 9) (n) (nI (k)))) L) rfl (by omega) (by decide) (wd_s10 ad ro c (upR (upR Z 40 (fun _ => nI (n + 1))) 9 (upd (Z 9) (n) (nI (k)))) L (upd (Z 10) (n) (v))) dX4_add_31 ?_
    refine j_aload_n C 32 1 dX4_add_32 rfl rfl ?_
    refine j_get C 33 (ci := 4) hL rfl 1 (wd_o1 ad ro c (upR (upR (upR Z 40 (fun _ => nI (n + 1))) 9 (upd (Z 9) (n) (nI (k)))) 10 (upd (Z 10) (n) (v))) L) 2 (by decide) f18 rfl (v := .ref (ad 11)) rfl dX4_add_33 ?_
    refine j_iload C 36 0 dX4_add_36 rfl ?_
    refine j_iload_n C 38 4 dX4_add_38 rfl rfl ?_
    refine j_iast C 39 11 0 (f := Z 11) (wd_a11 ad ro c (upR (upR (upR Z 40 (fun _ => nI (n + 1))) 9 (upd (Z 9) (n) (nI (k)))) 10 (upd (Z 10) (n) (v))) L) rfl (by omega) (by decide) (wd_s11 ad ro c (upR (upR (upR Z 40 (fun _ => nI (n + 1))) 9 (upd (Z 9) (n) (nI (k)))) 10 (upd (Z 10) (n) (v))) L (upd (Z 11) (n) (nI (a)))) dX4_add_39 ?_
    refine j_aload_n C 40 1 dX4_add_40 rfl rfl ?_
    refine j_get C 41 (ci := 4) hL rfl 1 (wd_o1 ad ro c (upR (upR (upR (upR Z 40 (fun _ => nI (n + 1))) 9 (upd (Z 9) (n) (nI (k)))) 10 (upd (Z 10) (n) (v))) 11 (upd (Z 11) (n) (nI (a)))) L) 3 (by decide) f21 rfl (v := .ref (ad 12)) rfl dX4_add_41 ?_
    refine j_iload C 44 0 dX4_add_44 rfl ?_
    refine j_iload C 46 5 dX4_add_46 rfl ?_
    refine j_iast C 48 12 0 (f := Z 12) (wd_a12 ad ro c (upR (upR (upR (upR Z 40 (fun _ => nI (n + 1))) 9 (upd (Z 9) (n) (nI (k)))) 10 (upd (Z 10) (n) (v))) 11 (upd (Z 11) (n) (nI (a)))) L) rfl (by omega) (by decide) (wd_s12 ad ro c (upR (upR (upR (upR Z 40 (fun _ => nI (n + 1))) 9 (upd (Z 9) (n) (nI (k)))) 10 (upd (Z 10) (n) (v))) 11 (upd (Z 11) (n) (nI (a)))) L (upd (Z 12) (n) (nI (b)))) dX4_add_48 ?_
    refine j_aload_n C 49 1 dX4_add_49 rfl rfl ?_
    refine j_get C 50 (ci := 4) hL rfl 1 (wd_o1 ad ro c (upR (upR (upR (upR (upR Z 40 (fun _ => nI (n + 1))) 9 (upd (Z 9) (n) (nI (k)))) 10 (upd (Z 10) (n) (v))) 11 (upd (Z 11) (n) (nI (a)))) 12 (upd (Z 12) (n) (nI (b)))) L) 4 (by decide) f24 rfl (v := .ref (ad 13)) rfl dX4_add_50 ?_
    refine j_iload C 53 0 dX4_add_53 rfl ?_
    refine j_iconst C 55 (v := -1) dX4_add_55 rfl ?_
    refine j_iast C 56 13 0 (f := Z 13) (wd_a13 ad ro c (upR (upR (upR (upR (upR Z 40 (fun _ => nI (n + 1))) 9 (upd (Z 9) (n) (nI (k)))) 10 (upd (Z 10) (n) (v))) 11 (upd (Z 11) (n) (nI (a)))) 12 (upd (Z 12) (n) (nI (b)))) L) rfl (by omega) (by decide) (wd_s13 ad ro c (upR (upR (upR (upR (upR Z 40 (fun _ => nI (n + 1))) 9 (upd (Z 9) (n) (nI (k)))) 10 (upd (Z 10) (n) (v))) 11 (upd (Z 11) (n) (nI (a)))) 12 (upd (Z 12) (n) (nI (b)))) L (upd (Z 13) (n) (-1))) dX4_add_56 ?_
    refine j_aload_n C 57 1 dX4_add_57 rfl rfl ?_
    refine j_get C 58 (ci := 4) hL rfl 1 (wd_o1 ad ro c (upR (upR (upR (upR (upR (upR Z 40 (fun _ => nI (n + 1))) 9 (upd (Z 9) (n) (nI (k)))) 10 (upd (Z 10) (n) (v))) 11 (upd (Z 11) (n) (nI (a)))) 12 (upd (Z 12) (n) (nI (b)))) 13 (upd (Z 13) (n) (-1))) L) 5 (by decide) f27 rfl (v := .ref (ad 14)) rfl dX4_add_58 ?_
    refine j_iload C 61 0 dX4_add_61 rfl ?_
    refine j_aload_n C 63 1 dX4_add_63 rfl rfl ?_
    refine j_iload_n C 64 4 dX4_add_64 rfl rfl ?_
    refine j_callI (mc := 0) (ms := 0) C 65 (c_X4_knotsIn (jl κ) D ad ro c (upR (upR (upR (upR (upR (upR Z 40 (fun _ => nI (n + 1))) 9 (upd (Z 9) (n) (nI (k)))) 10 (upd (Z 10) (n) (v))) 11 (upd (Z 11) (n) (nI (a)))) 12 (upd (Z 12) (n) (nI (b)))) 13 (upd (Z 13) (n) (-1))) L (nI a) (Or.inr ⟨a, by omega, rfl⟩)) gX4_add_X4_knotsIn rfl rfl rfl hd_X4_knotsIn (by rw [hR]; exact ⟨Nat.le_of_ble_eq_true rfl, Nat.le_of_ble_eq_true rfl⟩) (ci := 4) rfl 1 (wd_o1 ad ro c (upR (upR (upR (upR (upR (upR Z 40 (fun _ => nI (n + 1))) 9 (upd (Z 9) (n) (nI (k)))) 10 (upd (Z 10) (n) (v))) 11 (upd (Z 11) (n) (nI (a)))) 12 (upd (Z 12) (n) (nI (b)))) 13 (upd (Z 13) (n) (-1))) L) rfl (Nat.le_of_ble_eq_true rfl) ⟨Nat.zero_le _, Nat.zero_le _⟩ dX4_add_65 (fun r65 _ e65 => ?_)
    refine j_eqi (y := nI (τ 6 a)) (e65.trans ((if_neg (e_nm1 (by omega))).trans (by rw [nI_clamp (by omega)]; exact ha3.1))) ?_
    refine j_aload_n C 68 1 dX4_add_68 rfl rfl ?_
    refine j_iload C 69 5 dX4_add_69 rfl ?_
    refine j_callI (mc := 0) (ms := 0) C 71 (c_X4_knotsIn (jl κ) D ad ro c (upR (upR (upR (upR (upR (upR Z 40 (fun _ => nI (n + 1))) 9 (upd (Z 9) (n) (nI (k)))) 10 (upd (Z 10) (n) (v))) 11 (upd (Z 11) (n) (nI (a)))) 12 (upd (Z 12) (n) (nI (b)))) 13 (upd (Z 13) (n) (-1))) L (nI b) (Or.inr ⟨b, by omega, rfl⟩)) gX4_add_X4_knotsIn rfl rfl rfl hd_X4_knotsIn (by rw [hR]; exact ⟨Nat.le_of_ble_eq_true rfl, Nat.le_of_ble_eq_true rfl⟩) (ci := 4) rfl 1 (wd_o1 ad ro c (upR (upR (upR (upR (upR (upR Z 40 (fun _ => nI (n + 1))) 9 (upd (Z 9) (n) (nI (k)))) 10 (upd (Z 10) (n) (v))) 11 (upd (Z 11) (n) (nI (a)))) 12 (upd (Z 12) (n) (nI (b)))) 13 (upd (Z 13) (n) (-1))) L) rfl (Nat.le_of_ble_eq_true rfl) ⟨Nat.zero_le _, Nat.zero_le _⟩ dX4_add_71 (fun r71 _ e71 => ?_)
    refine j_eqi (y := nI (τ 6 b)) (e71.trans ((if_neg (e_nm1 (by omega))).trans (by rw [nI_clamp (by omega)]; exact hb3.1))) ?_
    refine j_mmax C 74 (C.t (.methodLink RX4 38 Lib.Math.max.name) (mX4_add_o _ (by decide +kernel))) (C.t (.static Lib.Math.max.name) (mX4_add_o _ (by decide +kernel))) (C.t (.initialized "java/lang/Math") (mX4_add_o _ (by decide +kernel))) (C.t (.code Lib.Math.max.name Lib.Math.max.code 2 (some .int)) (mX4_add_o _ (by decide +kernel))) (by rw [hR]; exact ⟨Nat.le_of_ble_eq_true rfl, Nat.le_of_ble_eq_true rfl⟩) ⟨Nat.zero_le _, Nat.zero_le _⟩ dX4_add_74 (e_max (by omega) (by omega)) ?_
    refine j_iload_n C 77 2 dX4_add_77 rfl rfl ?_
    refine j_bipush C 78 (v := nI 6) dX4_add_78 rfl ?_
    refine j_icmp_ne_n C 80 87 (by omega) (by omega) dX4_add_80 (by decide) (fun h80 => ?_) (fun h80 => ?_)
    · refine j_iconst C 87 (v := nI 0) dX4_add_87 rfl ?_
      refine j_iadd_e C 88 dX4_add_88 (nI_add _ _) ?_
      refine j_iast C 89 14 0 (f := Z 14) (wd_a14 ad ro c (upR (upR (upR (upR (upR (upR Z 40 (fun _ => nI (n + 1))) 9 (upd (Z 9) (n) (nI (k)))) 10 (upd (Z 10) (n) (v))) 11 (upd (Z 11) (n) (nI (a)))) 12 (upd (Z 12) (n) (nI (b)))) 13 (upd (Z 13) (n) (-1))) L) rfl (by omega) (by decide) (wd_s14 ad ro c (upR (upR (upR (upR (upR (upR Z 40 (fun _ => nI (n + 1))) 9 (upd (Z 9) (n) (nI (k)))) 10 (upd (Z 10) (n) (v))) 11 (upd (Z 11) (n) (nI (a)))) 12 (upd (Z 12) (n) (nI (b)))) 13 (upd (Z 13) (n) (-1))) L (upd (Z 14) (n) (nI (max (τ 6 a) (τ 6 b) + 0)))) dX4_add_89 ?_
      refine j_aload_n C 90 1 dX4_add_90 rfl rfl ?_
      refine j_iload_n C 91 4 dX4_add_91 rfl rfl ?_
      refine j_iload C 92 0 dX4_add_92 rfl ?_
      refine j_callV (mc := 0) (ms := 0) C 94 (c_X4_makePart (jl κ) D ad ro c (upR (upR (upR (upR (upR (upR (upR Z 40 (fun _ => nI (n + 1))) 9 (upd (Z 9) (n) (nI (k)))) 10 (upd (Z 10) (n) (v))) 11 (upd (Z 11) (n) (nI (a)))) 12 (upd (Z 12) (n) (nI (b)))) 13 (upd (Z 13) (n) (-1))) 14 (upd (Z 14) (n) (nI (max (τ 6 a) (τ 6 b) + 0)))) L (nI a) (nI n) (Or.inr ⟨a, by omega, rfl⟩)) gX4_add_X4_makePart rfl rfl rfl hd_X4_makePart (by rw [hR]; exact ⟨Nat.le_of_ble_eq_true rfl, Nat.le_of_ble_eq_true rfl⟩) (ci := 4) rfl 1 (wd_o1 ad ro c (upR (upR (upR (upR (upR (upR (upR Z 40 (fun _ => nI (n + 1))) 9 (upd (Z 9) (n) (nI (k)))) 10 (upd (Z 10) (n) (v))) 11 (upd (Z 11) (n) (nI (a)))) 12 (upd (Z 12) (n) (nI (b)))) 13 (upd (Z 13) (n) (-1))) 14 (upd (Z 14) (n) (nI (max (τ 6 a) (τ 6 b) + 0)))) L) rfl (Nat.le_of_ble_eq_true rfl) ⟨Nat.zero_le _, Nat.zero_le _⟩ dX4_add_94 (fun _ _ => ?_)
      refine j_ws (ws' := wd ad ro c (upR (upR (upR (upR (upR (upR (upR (upR Z 40 (fun _ => nI (n + 1))) 9 (upd (Z 9) (n) (nI (k)))) 10 (upd (Z 10) (n) (v))) 11 (upd (Z 11) (n) (nI (a)))) 12 (upd (Z 12) (n) (nI (b)))) 13 (upd (Z 13) (n) (-1))) 14 (upd (Z 14) (n) (nI (max (τ 6 a) (τ 6 b) + 0)))) 13 (upd (upd (Z 13) (n) (-1)) a (nI n))) L) (by rw [if_neg (e_nm1 (by omega)), nI_clamp (by omega)]; rfl) ?_
      refine j_aload_n C 97 1 dX4_add_97 rfl rfl ?_
      refine j_iload C 98 5 dX4_add_98 rfl ?_
      refine j_iload C 100 0 dX4_add_100 rfl ?_
      refine j_callV (mc := 0) (ms := 0) C 102 (c_X4_makePart (jl κ) D ad ro c (upR (upR (upR (upR (upR (upR (upR (upR Z 40 (fun _ => nI (n + 1))) 9 (upd (Z 9) (n) (nI (k)))) 10 (upd (Z 10) (n) (v))) 11 (upd (Z 11) (n) (nI (a)))) 12 (upd (Z 12) (n) (nI (b)))) 13 (upd (Z 13) (n) (-1))) 14 (upd (Z 14) (n) (nI (max (τ 6 a) (τ 6 b) + 0)))) 13 (upd (upd (Z 13) (n) (-1)) a (nI n))) L (nI b) (nI n) (Or.inr ⟨b, by omega, rfl⟩)) gX4_add_X4_makePart rfl rfl rfl hd_X4_makePart (by rw [hR]; exact ⟨Nat.le_of_ble_eq_true rfl, Nat.le_of_ble_eq_true rfl⟩) (ci := 4) rfl 1 (wd_o1 ad ro c (upR (upR (upR (upR (upR (upR (upR (upR Z 40 (fun _ => nI (n + 1))) 9 (upd (Z 9) (n) (nI (k)))) 10 (upd (Z 10) (n) (v))) 11 (upd (Z 11) (n) (nI (a)))) 12 (upd (Z 12) (n) (nI (b)))) 13 (upd (Z 13) (n) (-1))) 14 (upd (Z 14) (n) (nI (max (τ 6 a) (τ 6 b) + 0)))) 13 (upd (upd (Z 13) (n) (-1)) a (nI n))) L) rfl (Nat.le_of_ble_eq_true rfl) ⟨Nat.zero_le _, Nat.zero_le _⟩ dX4_add_102 (fun _ _ => ?_)
      refine j_ws (ws' := wd ad ro c (upR (upR (upR (upR (upR (upR (upR (upR (upR Z 40 (fun _ => nI (n + 1))) 9 (upd (Z 9) (n) (nI (k)))) 10 (upd (Z 10) (n) (v))) 11 (upd (Z 11) (n) (nI (a)))) 12 (upd (Z 12) (n) (nI (b)))) 13 (upd (Z 13) (n) (-1))) 14 (upd (Z 14) (n) (nI (max (τ 6 a) (τ 6 b) + 0)))) 13 (upd (upd (Z 13) (n) (-1)) a (nI n))) 13 (upd (upd (upd (Z 13) (n) (-1)) a (nI n)) b (nI n))) L) (by rw [if_neg (e_nm1 (by omega)), nI_clamp (by omega)]; rfl) ?_
      refine j_iload C 105 0 dX4_add_105 rfl ?_
      exact j_ireti C hr E (Nat.le_refl _) (Nat.le_refl _) rfl (upR (upR (upR (upR (upR (upR (upR (upR (upR Z 40 (fun _ => nI (n + 1))) 9 (upd (Z 9) (n) (nI (k)))) 10 (upd (Z 10) (n) (v))) 11 (upd (Z 11) (n) (nI (a)))) 12 (upd (Z 12) (n) (nI (b)))) 13 (upd (Z 13) (n) (-1))) 14 (upd (Z 14) (n) (nI (max (τ 6 a) (τ 6 b) + 0)))) 13 (upd (upd (Z 13) (n) (-1)) a (nI n))) 13 (upd (upd (upd (Z 13) (n) (-1)) a (nI n)) b (nI n))) ⟨rfl, g_E_new hE hNC hv rfl rfl rfl rfl rfl rfl (by show upd (Z 14) n _ = upd (Z 14) n (nI (max (τ 6 a) (τ 6 b) + (if k = 6 then 1 else 0))); rw [if_neg h80]) (e_w2 hac hbc), rfl, (g_fr_up (g_fr_up (g_fr_up (g_fr_up (g_fr_up (g_fr_up (g_fr_up (g_fr_up (g_fr_up g_fr_rfl (by decide) _) (by decide) _) (by decide) _) (by decide) _) (by decide) _) (by decide) _) (by decide) _) (by decide) _) (by decide) _)⟩ rfl dX4_add_107
    · refine j_iconst C 83 (v := nI 1) dX4_add_83 rfl ?_
      refine j_goto C 84 88 dX4_add_84 (by decide) ?_
      refine j_iadd_e C 88 dX4_add_88 (nI_add _ _) ?_
      refine j_iast C 89 14 0 (f := Z 14) (wd_a14 ad ro c (upR (upR (upR (upR (upR (upR Z 40 (fun _ => nI (n + 1))) 9 (upd (Z 9) (n) (nI (k)))) 10 (upd (Z 10) (n) (v))) 11 (upd (Z 11) (n) (nI (a)))) 12 (upd (Z 12) (n) (nI (b)))) 13 (upd (Z 13) (n) (-1))) L) rfl (by omega) (by decide) (wd_s14 ad ro c (upR (upR (upR (upR (upR (upR Z 40 (fun _ => nI (n + 1))) 9 (upd (Z 9) (n) (nI (k)))) 10 (upd (Z 10) (n) (v))) 11 (upd (Z 11) (n) (nI (a)))) 12 (upd (Z 12) (n) (nI (b)))) 13 (upd (Z 13) (n) (-1))) L (upd (Z 14) (n) (nI (max (τ 6 a) (τ 6 b) + 1)))) dX4_add_89 ?_
      refine j_aload_n C 90 1 dX4_add_90 rfl rfl ?_
      refine j_iload_n C 91 4 dX4_add_91 rfl rfl ?_
      refine j_iload C 92 0 dX4_add_92 rfl ?_
      refine j_callV (mc := 0) (ms := 0) C 94 (c_X4_makePart (jl κ) D ad ro c (upR (upR (upR (upR (upR (upR (upR Z 40 (fun _ => nI (n + 1))) 9 (upd (Z 9) (n) (nI (k)))) 10 (upd (Z 10) (n) (v))) 11 (upd (Z 11) (n) (nI (a)))) 12 (upd (Z 12) (n) (nI (b)))) 13 (upd (Z 13) (n) (-1))) 14 (upd (Z 14) (n) (nI (max (τ 6 a) (τ 6 b) + 1)))) L (nI a) (nI n) (Or.inr ⟨a, by omega, rfl⟩)) gX4_add_X4_makePart rfl rfl rfl hd_X4_makePart (by rw [hR]; exact ⟨Nat.le_of_ble_eq_true rfl, Nat.le_of_ble_eq_true rfl⟩) (ci := 4) rfl 1 (wd_o1 ad ro c (upR (upR (upR (upR (upR (upR (upR Z 40 (fun _ => nI (n + 1))) 9 (upd (Z 9) (n) (nI (k)))) 10 (upd (Z 10) (n) (v))) 11 (upd (Z 11) (n) (nI (a)))) 12 (upd (Z 12) (n) (nI (b)))) 13 (upd (Z 13) (n) (-1))) 14 (upd (Z 14) (n) (nI (max (τ 6 a) (τ 6 b) + 1)))) L) rfl (Nat.le_of_ble_eq_true rfl) ⟨Nat.zero_le _, Nat.zero_le _⟩ dX4_add_94 (fun _ _ => ?_)
      refine j_ws (ws' := wd ad ro c (upR (upR (upR (upR (upR (upR (upR (upR Z 40 (fun _ => nI (n + 1))) 9 (upd (Z 9) (n) (nI (k)))) 10 (upd (Z 10) (n) (v))) 11 (upd (Z 11) (n) (nI (a)))) 12 (upd (Z 12) (n) (nI (b)))) 13 (upd (Z 13) (n) (-1))) 14 (upd (Z 14) (n) (nI (max (τ 6 a) (τ 6 b) + 1)))) 13 (upd (upd (Z 13) (n) (-1)) a (nI n))) L) (by rw [if_neg (e_nm1 (by omega)), nI_clamp (by omega)]; rfl) ?_
      refine j_aload_n C 97 1 dX4_add_97 rfl rfl ?_
      refine j_iload C 98 5 dX4_add_98 rfl ?_
      refine j_iload C 100 0 dX4_add_100 rfl ?_
      refine j_callV (mc := 0) (ms := 0) C 102 (c_X4_makePart (jl κ) D ad ro c (upR (upR (upR (upR (upR (upR (upR (upR Z 40 (fun _ => nI (n + 1))) 9 (upd (Z 9) (n) (nI (k)))) 10 (upd (Z 10) (n) (v))) 11 (upd (Z 11) (n) (nI (a)))) 12 (upd (Z 12) (n) (nI (b)))) 13 (upd (Z 13) (n) (-1))) 14 (upd (Z 14) (n) (nI (max (τ 6 a) (τ 6 b) + 1)))) 13 (upd (upd (Z 13) (n) (-1)) a (nI n))) L (nI b) (nI n) (Or.inr ⟨b, by omega, rfl⟩)) gX4_add_X4_makePart rfl rfl rfl hd_X4_makePart (by rw [hR]; exact ⟨Nat.le_of_ble_eq_true rfl, Nat.le_of_ble_eq_true rfl⟩) (ci := 4) rfl 1 (wd_o1 ad ro c (upR (upR (upR (upR (upR (upR (upR (upR Z 40 (fun _ => nI (n + 1))) 9 (upd (Z 9) (n) (nI (k)))) 10 (upd (Z 10) (n) (v))) 11 (upd (Z 11) (n) (nI (a)))) 12 (upd (Z 12) (n) (nI (b)))) 13 (upd (Z 13) (n) (-1))) 14 (upd (Z 14) (n) (nI (max (τ 6 a) (τ 6 b) + 1)))) 13 (upd (upd (Z 13) (n) (-1)) a (nI n))) L) rfl (Nat.le_of_ble_eq_true rfl) ⟨Nat.zero_le _, Nat.zero_le _⟩ dX4_add_102 (fun _ _ => ?_)
      refine j_ws (ws' := wd ad ro c (upR (upR (upR (upR (upR (upR (upR (upR (upR Z 40 (fun _ => nI (n + 1))) 9 (upd (Z 9) (n) (nI (k)))) 10 (upd (Z 10) (n) (v))) 11 (upd (Z 11) (n) (nI (a)))) 12 (upd (Z 12) (n) (nI (b)))) 13 (upd (Z 13) (n) (-1))) 14 (upd (Z 14) (n) (nI (max (τ 6 a) (τ 6 b) + 1)))) 13 (upd (upd (Z 13) (n) (-1)) a (nI n))) 13 (upd (upd (upd (Z 13) (n) (-1)) a (nI n)) b (nI n))) L) (by rw [if_neg (e_nm1 (by omega)), nI_clamp (by omega)]; rfl) ?_
      refine j_iload C 105 0 dX4_add_105 rfl ?_
      exact j_ireti C hr E (Nat.le_refl _) (Nat.le_refl _) rfl (upR (upR (upR (upR (upR (upR (upR (upR (upR Z 40 (fun _ => nI (n + 1))) 9 (upd (Z 9) (n) (nI (k)))) 10 (upd (Z 10) (n) (v))) 11 (upd (Z 11) (n) (nI (a)))) 12 (upd (Z 12) (n) (nI (b)))) 13 (upd (Z 13) (n) (-1))) 14 (upd (Z 14) (n) (nI (max (τ 6 a) (τ 6 b) + 1)))) 13 (upd (upd (Z 13) (n) (-1)) a (nI n))) 13 (upd (upd (upd (Z 13) (n) (-1)) a (nI n)) b (nI n))) ⟨rfl, g_E_new hE hNC hv rfl rfl rfl rfl rfl rfl (by show upd (Z 14) n _ = upd (Z 14) n (nI (max (τ 6 a) (τ 6 b) + (if k = 6 then 1 else 0))); rw [if_pos h80]) (e_w2 hac hbc), rfl, (g_fr_up (g_fr_up (g_fr_up (g_fr_up (g_fr_up (g_fr_up (g_fr_up (g_fr_up (g_fr_up g_fr_rfl (by decide) _) (by decide) _) (by decide) _) (by decide) _) (by decide) _) (by decide) _) (by decide) _) (by decide) _) (by decide) _)⟩ rfl dX4_add_107
  · simp at hc2
abbrev bT (n : Nat) (x : Int32) : Prop := ¬ x < 0 ∧ x < nI n
theorem bT_iff {n : Nat} {x : Int32} (hn : n ≤ 48) : bT n x ↔ ∃ t, t < n ∧ x = nI t := by
  rcases g_ix x n hn with h | ⟨h1, h2⟩
  · refine ⟨fun _ => h, fun ⟨t, ht, e⟩ => ?_⟩
    subst e
    exact ⟨nI_pos (by omega), (nI_ltI (by omega) (by omega)).mpr ht⟩
  · refine ⟨fun ⟨a, b⟩ => ?_, fun h => absurd h h1⟩
    rcases h2 with h2 | h2
    · exact absurd h2 a
    · exact absurd b (Int32.not_lt.mpr h2)
/-- the i-th of a method's exceptions is told by the number i + 1 -/
def xk (es : List String) (k : Nat) (E : String) : Prop := ∃ i : Nat, es[i]? = some E ∧ k = i + 1
theorem g_ff_400 {τ : Tb} {root : Nat} {S : TS} : ∀ {l : List Nat}, (∀ t, t ∈ l → t < 48) → g_ff τ root S l ≤ 400
  | [], _ => Nat.zero_le _
  | a :: l, h => by
    have q := g_fa_le (τ := τ) (root := root) (S := S) a
    have q2 := h a (by simp)
    have q3 := g_ff_400 (τ := τ) (root := root) (S := S) (l := l) (fun t ht => h t (by simp [ht]))
    unfold g_ff
    split <;> omega
theorem g_fo_400 {n : Nat} {τ : Tb} {t : Nat} (h : g_WF n τ) (ht : t < n) : g_fo τ t ≤ 400 := g_ff_400 (fun u hu => by have := g_P_lt h ht hu; have := h.1; omega)
set_option maxHeartbeats 4000000 in
set_option maxRecDepth 100000 in
theorem c_X7_needTerm (ll : Launch) (hst : ll.stackTraces = false) (D : va_G) (ad ro : Nat → Nat) (c : Nat → ClassId) (Z : ZT) (L : LT) (n : Nat) (x : Int32) (hz : Z 40 0 = nI n) : cXV (S := Unit) (SX := Unit) ll yX7_needTerm vsX7_needTerm ({ frames := 6, cells := 1, slots := 6, locals := 85 } : Room) D (tysG c) [.ref (ad 0), .int (x)] (wd ad ro c Z L) (fun _ => wd ad ro c Z L) (fun _ => bT n x) (fun _ => wd ad ro c Z L) (fun E _ => E = "java/lang/IndexOutOfBoundsException" ∧ ¬ bT n x) 1 6 := by
  refine cXV_start (cc := cX7_needTerm) (maxL := 2) RX7 rfl (by decide +kernel) rfl (Nat.le_of_ble_eq_true rfl) hst ?_
  intro κ hlκ X hr E hR hn
  subst hlκ
  have C := X.1
  have hL : ∀ w ∈ u_ws RX7 TX7 7, w.before (ja κ) (js κ) = true := fun w h => C.t w (mX7_needTerm_wsX70 w h)
  have f12 : (Cond.fieldLink RX7 12 "GuardedGrammar" (TX7 0).2.1 (TX7 0).2.2.1).before (ja κ) (js κ) = true := C.t (.fieldLink RX7 12 "GuardedGrammar" "terms" "LGuardedGrammar$Terms;") (mX7_needTerm_o _ (by decide +kernel))
  show J D κ 0 0 0 [(0, .ref (ad 0)), (1, .int (x))] [] (wd ad ro c Z L)
  refine j_aload_n C 0 0 dX7_needTerm_0 rfl rfl ?_
  refine j_get C 1 (ci := 7) hL rfl 0 (wd_o0 ad ro c Z L) 0 (by decide) f12 rfl (v := .ref (ad 1)) rfl dX7_needTerm_1 ?_
  refine j_iload_n C 4 1 dX7_needTerm_4 rfl rfl ?_
  refine j_callI (mc := 0) (ms := 0) C 5 (c_X4_has (jl κ) D ad ro c Z L (x)) gX7_needTerm_X4_has rfl rfl rfl hd_X4_has (by rw [hR]; exact ⟨Nat.le_of_ble_eq_true rfl, Nat.le_of_ble_eq_true rfl⟩) (ci := 4) rfl 1 (wd_o1 ad ro c Z L) rfl (Nat.le_of_ble_eq_true rfl) (by rw [hR]; exact ⟨Nat.le_of_ble_eq_true rfl, Nat.le_of_ble_eq_true rfl⟩) dX7_needTerm_5 (fun r5 _ e5 => ?_)
  refine j_eqi (y := b2 (decide (bT n (x)))) (e5.trans (by rw [show Z 40 0 = nI n from hz])) ?_
  refine j_if_ne_b C 8 19 dX7_needTerm_8 (by decide) (fun h8 => ?_) (fun h8 => ?_)
  · exact j_xvreti C hr E (Nat.le_of_ble_eq_true rfl) (Nat.le_of_ble_eq_true rfl) () (of_decide_eq_true h8) rfl dX7_needTerm_19
  · exact j_throw0 X 11 E (ik := 105) (ic := 107) (cls := "java/lang/IndexOutOfBoundsException") ix_IOB fx_IOB (C.t (.classLink RX7 105 "java/lang/IndexOutOfBoundsException") (mX7_needTerm_o _ (by decide +kernel))) (C.t (.initialized "java/lang/IndexOutOfBoundsException") (mX7_needTerm_o _ (by decide +kernel))) mX7_needTerm_t107 ng_IOB gx_IOB dX7_needTerm_11 dX7_needTerm_14 dX7_needTerm_15 dX7_needTerm_18 (by rw [hR]; exact ⟨Nat.le_of_ble_eq_true rfl, Nat.le_of_ble_eq_true rfl⟩) (by rw [hR]; exact ⟨Nat.le_of_ble_eq_true rfl, Nat.le_of_ble_eq_true rfl⟩) (Nat.le_of_ble_eq_true rfl) (Nat.le_of_ble_eq_true rfl) () ⟨rfl, of_decide_eq_false h8⟩ rfl
set_option maxHeartbeats 4000000 in
set_option maxRecDepth 100000 in
theorem c_X7_needRoom (ll : Launch) (hst : ll.stackTraces = false) (D : va_G) (ad ro : Nat → Nat) (c : Nat → ClassId) (Z : ZT) (L : LT) (n : Nat) (hz : Z 40 0 = nI n) (hn48 : n ≤ 48) : cXV (S := Unit) (SX := Unit) ll yX7_needRoom vsX7_needRoom ({ frames := 6, cells := 1, slots := 6, locals := 85 } : Room) D (tysG c) [.ref (ad 0)] (wd ad ro c Z L) (fun _ => wd ad ro c Z L) (fun _ => n < 48) (fun _ => wd ad ro c Z L) (fun E _ => E = "java/lang/UnsupportedOperationException" ∧ n = 48) 1 6 := by
  refine cXV_start (cc := cX7_needRoom) (maxL := 1) RX7 rfl (by decide +kernel) rfl (Nat.le_of_ble_eq_true rfl) hst ?_
  intro κ hlκ X hr E hR hn
  subst hlκ
  have C := X.1
  have hL : ∀ w ∈ u_ws RX7 TX7 7, w.before (ja κ) (js κ) = true := fun w h => C.t w (mX7_needRoom_wsX70 w h)
  have f12 : (Cond.fieldLink RX7 12 "GuardedGrammar" (TX7 0).2.1 (TX7 0).2.2.1).before (ja κ) (js κ) = true := C.t (.fieldLink RX7 12 "GuardedGrammar" "terms" "LGuardedGrammar$Terms;") (mX7_needRoom_o _ (by decide +kernel))
  show J D κ 0 0 0 [(0, .ref (ad 0))] [] (wd ad ro c Z L)
  refine j_aload_n C 0 0 dX7_needRoom_0 rfl rfl ?_
  refine j_get C 1 (ci := 7) hL rfl 0 (wd_o0 ad ro c Z L) 0 (by decide) f12 rfl (v := .ref (ad 1)) rfl dX7_needRoom_1 ?_
  refine j_callI (mc := 0) (ms := 0) C 4 (c_X4_isFull (jl κ) D ad ro c Z L ) gX7_needRoom_X4_isFull rfl rfl rfl hd_X4_isFull (by rw [hR]; exact ⟨Nat.le_of_ble_eq_true rfl, Nat.le_of_ble_eq_true rfl⟩) (ci := 4) rfl 1 (wd_o1 ad ro c Z L) rfl (Nat.le_of_ble_eq_true rfl) (by rw [hR]; exact ⟨Nat.le_of_ble_eq_true rfl, Nat.le_of_ble_eq_true rfl⟩) dX7_needRoom_4 (fun r4 _ e4 => ?_)
  refine j_eqi (y := b2 (decide (¬ nI n < nI 48))) (e4.trans (by rw [show Z 40 0 = nI n from hz])) ?_
  refine j_if_eq_b C 7 18 dX7_needRoom_7 (by decide) (fun h7 => ?_) (fun h7 => ?_)
  · exact j_xvreti C hr E (Nat.le_of_ble_eq_true rfl) (Nat.le_of_ble_eq_true rfl) () (by have q := of_decide_eq_false h7; rw [nI_ltI (by omega) (by omega)] at q; omega) rfl dX7_needRoom_18
  · exact j_throw0 X 10 E (ik := 89) (ic := 91) (cls := "java/lang/UnsupportedOperationException") ix_UOE fx_UOE (C.t (.classLink RX7 89 "java/lang/UnsupportedOperationException") (mX7_needRoom_o _ (by decide +kernel))) (C.t (.initialized "java/lang/UnsupportedOperationException") (mX7_needRoom_o _ (by decide +kernel))) mX7_needRoom_t91 ng_UOE gx_UOE dX7_needRoom_10 dX7_needRoom_13 dX7_needRoom_14 dX7_needRoom_17 (by rw [hR]; exact ⟨Nat.le_of_ble_eq_true rfl, Nat.le_of_ble_eq_true rfl⟩) (by rw [hR]; exact ⟨Nat.le_of_ble_eq_true rfl, Nat.le_of_ble_eq_true rfl⟩) (Nat.le_of_ble_eq_true rfl) (Nat.le_of_ble_eq_true rfl) () ⟨rfl, by have q := of_decide_eq_true h7; rw [nI_ltI (by omega) (by omega)] at q; omega⟩ rfl
set_option maxHeartbeats 4000000 in
set_option maxRecDepth 100000 in
theorem c_X7_needVariable (ll : Launch) (hst : ll.stackTraces = false) (D : va_G) (ad ro : Nat → Nat) (c : Nat → ClassId) (Z : ZT) (L : LT) (x : Int32)  : cXV (S := Unit) (SX := Unit) ll yX7_needVariable vsX7_needVariable ({ frames := 6, cells := 1, slots := 6, locals := 85 } : Room) D (tysG c) [.ref (ad 0), .int (x)] (wd ad ro c Z L) (fun _ => wd ad ro c Z L) (fun _ => ¬ (x < 0 ∨ nI 4 ≤ x)) (fun _ => wd ad ro c Z L) (fun E _ => E = "java/lang/IllegalArgumentException" ∧ (x < 0 ∨ nI 4 ≤ x)) 1 6 := by
  refine cXV_start (cc := cX7_needVariable) (maxL := 2) RX7 rfl (by decide +kernel) rfl (Nat.le_of_ble_eq_true rfl) hst ?_
  intro κ hlκ X hr E hR hn
  subst hlκ
  have C := X.1
  show J D κ 0 0 0 [(0, .ref (ad 0)), (1, .int (x))] [] (wd ad ro c Z L)
  refine j_iload_n C 0 1 dX7_needVariable_0 rfl rfl ?_
  refine j_if_lt C 1 9 dX7_needVariable_1 (by decide) (fun h1 => ?_) (fun h1 => ?_)
  · exact j_throw0 X 9 E (ik := 61) (ic := 63) (cls := "java/lang/IllegalArgumentException") ix_IAE fx_IAE (C.t (.classLink RX7 61 "java/lang/IllegalArgumentException") (mX7_needVariable_o _ (by decide +kernel))) (C.t (.initialized "java/lang/IllegalArgumentException") (mX7_needVariable_o _ (by decide +kernel))) mX7_needVariable_t63 ng_IAE gx_IAE dX7_needVariable_9 dX7_needVariable_12 dX7_needVariable_13 dX7_needVariable_16 (by rw [hR]; exact ⟨Nat.le_of_ble_eq_true rfl, Nat.le_of_ble_eq_true rfl⟩) (by rw [hR]; exact ⟨Nat.le_of_ble_eq_true rfl, Nat.le_of_ble_eq_true rfl⟩) (Nat.le_of_ble_eq_true rfl) (Nat.le_of_ble_eq_true rfl) () ⟨rfl, Or.inl h1⟩ rfl
  · refine j_iload_n C 4 1 dX7_needVariable_4 rfl rfl ?_
    refine j_iconst C 5 (v := nI 4) dX7_needVariable_5 rfl ?_
    refine j_icmp_lt C 6 17 dX7_needVariable_6 (by decide) (fun h6 => ?_) (fun h6 => ?_)
    · exact j_xvreti C hr E (Nat.le_of_ble_eq_true rfl) (Nat.le_of_ble_eq_true rfl) () (fun q => q.elim h1 (fun q => absurd h6 (Int32.not_lt.mpr q))) rfl dX7_needVariable_17
    · exact j_throw0 X 9 E (ik := 61) (ic := 63) (cls := "java/lang/IllegalArgumentException") ix_IAE fx_IAE (C.t (.classLink RX7 61 "java/lang/IllegalArgumentException") (mX7_needVariable_o _ (by decide +kernel))) (C.t (.initialized "java/lang/IllegalArgumentException") (mX7_needVariable_o _ (by decide +kernel))) mX7_needVariable_t63 ng_IAE gx_IAE dX7_needVariable_9 dX7_needVariable_12 dX7_needVariable_13 dX7_needVariable_16 (by rw [hR]; exact ⟨Nat.le_of_ble_eq_true rfl, Nat.le_of_ble_eq_true rfl⟩) (by rw [hR]; exact ⟨Nat.le_of_ble_eq_true rfl, Nat.le_of_ble_eq_true rfl⟩) (Nat.le_of_ble_eq_true rfl) (Nat.le_of_ble_eq_true rfl) () ⟨rfl, Or.inr (Int32.not_lt.mp h6)⟩ rfl
set_option maxHeartbeats 4000000 in
set_option maxRecDepth 100000 in
theorem c_X7_needTyped (ll : Launch) (hst : ll.stackTraces = false) (D : va_G) (ad ro : Nat → Nat) (c : Nat → ClassId) (Z : ZT) (L : LT) {n : Nat} {τ : Tb} (t : Nat) (hwf : g_WF n τ) (ht : t < n) (hE : g_ED n τ Z) : cXV (S := ZT) (SX := ZT) ll yX7_needTyped vsX7_needTyped ({ frames := 6, cells := 1, slots := 6, locals := 117 } : Room) D (tysG c) [.ref (ad 0), .int (nI (t))] (wd ad ro c Z L) (fun Z' => wd ad ro c Z' L) (fun Z' => g_ST τ t Z' ∧ g_fo τ t = 0 ∧ g_fr [15, 16, 17, 18, 19, 20, 21, 41] Z Z') (fun Z' => wd ad ro c Z' L) (fun E Z' => E = "java/lang/IllegalStateException" ∧ g_fo τ t ≠ 0 ∧ g_fr [15, 16, 17, 18, 19, 20, 21, 41] Z Z') 1 6 := by
  refine cXV_start (cc := cX7_needTyped) (maxL := 2) RX7 rfl (by decide +kernel) rfl (Nat.le_of_ble_eq_true rfl) hst ?_
  intro κ hlκ X hr E hR hn
  subst hlκ
  have C := X.1
  have hL : ∀ w ∈ u_ws RX7 TX7 7, w.before (ja κ) (js κ) = true := fun w h => C.t w (mX7_needTyped_wsX70 w h)
  have f21 : (Cond.fieldLink RX7 21 "GuardedGrammar" (TX7 1).2.1 (TX7 1).2.2.1).before (ja κ) (js κ) = true := C.t (.fieldLink RX7 21 "GuardedGrammar" "typing" "LGuardedGrammar$Typing;") (mX7_needTyped_o _ (by decide +kernel))
  show J D κ 0 0 0 [(0, .ref (ad 0)), (1, .int (nI (t)))] [] (wd ad ro c Z L)
  have h48n := hwf.1
  have hfo := g_fo_400 hwf ht
  refine j_aload_n C 0 0 dX7_needTyped_0 rfl rfl ?_
  refine j_get C 1 (ci := 7) hL rfl 0 (wd_o0 ad ro c Z L) 1 (by decide) f21 rfl (v := .ref (ad 2)) rfl dX7_needTyped_1 ?_
  refine j_iload_n C 4 1 dX7_needTyped_4 rfl rfl ?_
  refine j_callV (mc := 0) (ms := 0) C 5 (c_X5_study (jl κ) D ad ro c Z L t hwf ht hE) gX7_needTyped_X5_study rfl rfl rfl hd_X5_study (by rw [hR]; exact ⟨Nat.le_of_ble_eq_true rfl, Nat.le_of_ble_eq_true rfl⟩) (ci := 5) rfl 2 (wd_o2 ad ro c Z L) rfl (Nat.le_of_ble_eq_true rfl) (by rw [hR]; exact ⟨Nat.le_of_ble_eq_true rfl, Nat.le_of_ble_eq_true rfl⟩) dX7_needTyped_5 (fun Z5 q5 => ?_)
  have hE5 : g_ED n τ Z5 := g_ED_fr (q5.2) (by decide) hE
  refine j_aload_n C 8 0 dX7_needTyped_8 rfl rfl ?_
  refine j_get C 9 (ci := 7) hL rfl 0 (wd_o0 ad ro c Z5 L) 1 (by decide) f21 rfl (v := .ref (ad 2)) rfl dX7_needTyped_9 ?_
  refine j_callI (mc := 0) (ms := 0) C 12 (c_X5_firstFault (jl κ) D ad ro c Z5 L (g_T τ t) hwf ht hE5 q5.1.2.1 q5.1.2.2.2 q5.1.1) gX7_needTyped_X5_firstFault rfl rfl rfl hd_X5_firstFault (by rw [hR]; exact ⟨Nat.le_of_ble_eq_true rfl, Nat.le_of_ble_eq_true rfl⟩) (ci := 5) rfl 2 (wd_o2 ad ro c Z5 L) rfl (Nat.le_of_ble_eq_true rfl) (by rw [hR]; exact ⟨Nat.le_of_ble_eq_true rfl, Nat.le_of_ble_eq_true rfl⟩) dX7_needTyped_12 (fun r12 _ e12 => ?_)
  refine j_eqi (y := nI (g_fo τ t)) e12 ?_
  refine j_if_eq_n C 15 26 (by omega) dX7_needTyped_15 (by decide) (fun h15 => ?_) (fun h15 => ?_)
  · exact j_xvreti C hr E (Nat.le_of_ble_eq_true rfl) (Nat.le_of_ble_eq_true rfl) Z5 ⟨q5.1, h15, q5.2⟩ rfl dX7_needTyped_26
  · exact j_throw0 X 18 E (ik := 82) (ic := 84) (cls := "java/lang/IllegalStateException") ix_ISE fx_ISE (C.t (.classLink RX7 82 "java/lang/IllegalStateException") (mX7_needTyped_o _ (by decide +kernel))) (C.t (.initialized "java/lang/IllegalStateException") (mX7_needTyped_o _ (by decide +kernel))) mX7_needTyped_t84 ng_ISE gx_ISE dX7_needTyped_18 dX7_needTyped_21 dX7_needTyped_22 dX7_needTyped_25 (by rw [hR]; exact ⟨Nat.le_of_ble_eq_true rfl, Nat.le_of_ble_eq_true rfl⟩) (by rw [hR]; exact ⟨Nat.le_of_ble_eq_true rfl, Nat.le_of_ble_eq_true rfl⟩) (Nat.le_of_ble_eq_true rfl) (Nat.le_of_ble_eq_true rfl) Z5 ⟨rfl, h15, q5.2⟩ rfl
