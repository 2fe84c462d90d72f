/-! contracts: the reference, I -/
set_option maxHeartbeats 4000000 in
set_option maxRecDepth 100000 in
theorem c_X8_thrown (ll : Launch) (D : va_G) (bd : Nat → Nat) (c : Nat → ClassId) (Z : ZT) (L : LT)   : cI (S := Unit) ll yX8_thrown vsX8_thrown ({ frames := 0, cells := 0, slots := 0, locals := 0 } : Room) D (tysG c) [.ref (bd 0)] (wm bd c Z L) (fun _ => wm bd c Z L) (fun r _ => r = Z 40 0) 0 0 := by
  refine cI_start (cc := cX8_thrown) (maxL := 1) RX8 rfl (by decide +kernel) rfl (Nat.le_of_ble_eq_true rfl) ?_
  intro κ hlκ C hr _ E hR hn
  subst hlκ
  have hL : ∀ w ∈ u_ws RX8 TX8 28, w.before (ja κ) (js κ) = true := fun w h => C.t w (mX8_thrown_wsX80 w h)
  have f73 : (Cond.fieldLink RX8 73 "GuardedGrammarModel" (TX8 0).2.1 (TX8 0).2.2.1).before (ja κ) (js κ) = true := C.t (.fieldLink RX8 73 "GuardedGrammarModel" "thrown" "I") (mX8_thrown_o _ (by decide +kernel))
  show J D κ 0 0 0 [(0, .ref (bd 0))] [] (wm bd c Z L)
  refine j_aload_n C 0 0 dX8_thrown_0 rfl rfl ?_
  refine j_get C 1 (ci := 8) hL rfl 0 (wm_o0 bd c Z L) 0 (by decide) f73 rfl (v := .int (Z 40 0)) rfl dX8_thrown_1 ?_
  exact j_ireti C hr E (Nat.le_refl _) (Nat.le_refl _) rfl () rfl rfl dX8_thrown_4
set_option maxHeartbeats 4000000 in
set_option maxRecDepth 100000 in
theorem c_X8_fail (ll : Launch) (D : va_G) (bd : Nat → Nat) (c : Nat → ClassId) (Z : ZT) (L : LT) (x : Int32)  : cI (S := Unit) ll yX8_fail vsX8_fail ({ frames := 0, cells := 0, slots := 0, locals := 0 } : Room) D (tysG c) [.ref (bd 0), .int (x)] (wm bd c Z L) (fun _ => wm bd c (upR Z 40 (fun _ => x)) L) (fun r _ => r = nI 0) 0 0 := by
  refine cI_start (cc := cX8_fail) (maxL := 2) RX8 rfl (by decide +kernel) rfl (Nat.le_of_ble_eq_true rfl) ?_
  intro κ hlκ C hr _ E hR hn
  subst hlκ
  have hL : ∀ w ∈ u_ws RX8 TX8 28, w.before (ja κ) (js κ) = true := fun w h => C.t w (mX8_fail_wsX80 w h)
  have f73 : (Cond.fieldLink RX8 73 "GuardedGrammarModel" (TX8 0).2.1 (TX8 0).2.2.1).before (ja κ) (js κ) = true := C.t (.fieldLink RX8 73 "GuardedGrammarModel" "thrown" "I") (mX8_fail_o _ (by decide +kernel))
  show J D κ 0 0 0 [(0, .ref (bd 0)), (1, .int (x))] [] (wm bd c Z L)
  refine j_aload_n C 0 0 dX8_fail_0 rfl rfl ?_
  refine j_iload_n C 1 1 dX8_fail_1 rfl rfl ?_
  refine j_put C 2 (ci := 8) hL tyX8_ok nmX8 rfl 0 (wm_o0 bd c Z L) 0 (by decide) f73 rfl rfl (tyX8_ok 0 (by decide)) rfl rfl (Nat.le_of_ble_eq_true rfl) (wm_p40 bd c Z L (x)) dX8_fail_2 ?_
  refine j_iconst C 5 (v := nI 0) dX8_fail_5 rfl ?_
  exact j_ireti C hr E (Nat.le_refl _) (Nat.le_refl _) rfl () rfl rfl dX8_fail_6
set_option maxHeartbeats 4000000 in
set_option maxRecDepth 100000 in
theorem c_X8_isTerm (ll : Launch) (D : va_G) (bd : Nat → Nat) (c : Nat → ClassId) (Z : ZT) (L : LT) (n : Nat) (x : Int32) (hz : Z 41 0 = nI n) : cI (S := Unit) ll yX8_isTerm vsX8_isTerm ({ frames := 0, cells := 0, slots := 0, locals := 0 } : Room) D (tysG c) [.ref (bd 0), .int (x)] (wm bd c Z L) (fun _ => wm bd c Z L) (fun r _ => r = b2 (decide (bT n x))) 0 0 := by
  refine cI_start (cc := cX8_isTerm) (maxL := 2) RX8 rfl (by decide +kernel) rfl (Nat.le_of_ble_eq_true rfl) ?_
  intro κ hlκ C hr _ E hR hn
  subst hlκ
  have hL : ∀ w ∈ u_ws RX8 TX8 28, w.before (ja κ) (js κ) = true := fun w h => C.t w (mX8_isTerm_wsX80 w h)
  have f76 : (Cond.fieldLink RX8 76 "GuardedGrammarModel" (TX8 1).2.1 (TX8 1).2.2.1).before (ja κ) (js κ) = true := C.t (.fieldLink RX8 76 "GuardedGrammarModel" "terms" "I") (mX8_isTerm_o _ (by decide +kernel))
  show J D κ 0 0 0 [(0, .ref (bd 0)), (1, .int (x))] [] (wm bd c Z L)
  refine j_iload_n C 0 1 dX8_isTerm_0 rfl rfl ?_
  refine j_if_lt C 1 16 dX8_isTerm_1 (by decide) (fun h1 => ?_) (fun h1 => ?_)
  · refine j_iconst C 16 (v := nI 0) dX8_isTerm_16 rfl ?_
    exact j_ireti C hr E (Nat.le_refl _) (Nat.le_refl _) (by decide) () (bt_0 (fun q => q.1 h1)) rfl dX8_isTerm_17
  · refine j_iload_n C 4 1 dX8_isTerm_4 rfl rfl ?_
    refine j_aload_n C 5 0 dX8_isTerm_5 rfl rfl ?_
    refine j_get C 6 (ci := 8) hL rfl 0 (wm_o0 bd c Z L) 1 (by decide) f76 rfl (v := .int (Z 41 0)) rfl dX8_isTerm_6 ?_
    refine j_eqi hz ?_
    refine j_icmp_ge C 9 16 dX8_isTerm_9 (by decide) (fun h9 => ?_) (fun h9 => ?_)
    · refine j_iconst C 16 (v := nI 0) dX8_isTerm_16 rfl ?_
      exact j_ireti C hr E (Nat.le_refl _) (Nat.le_refl _) (by decide) () (bt_0 (fun q => absurd q.2 (Int32.not_lt.mpr h9))) rfl dX8_isTerm_17
    · refine j_iconst C 12 (v := nI 1) dX8_isTerm_12 rfl ?_
      refine j_goto C 13 17 dX8_isTerm_13 (by decide) ?_
      exact j_ireti C hr E (Nat.le_refl _) (Nat.le_refl _) (by decide) () (bt_1 ⟨h1, Int32.not_le.mp h9⟩) rfl dX8_isTerm_17
set_option maxHeartbeats 4000000 in
set_option maxRecDepth 100000 in
theorem c_X8_isPart (ll : Launch) (D : va_G) (bd : Nat → Nat) (c : Nat → ClassId) (Z : ZT) (L : LT) {n : Nat} {τ : Tb} (t : Nat) (hwf : g_WF n τ) (hE : g_EM n τ Z) (ht : t < n) : cI (S := Unit) ll yX8_isPart vsX8_isPart ({ frames := 0, cells := 0, slots := 0, locals := 0 } : Room) D (tysG c) [.ref (bd 0), .int (nI (t))] (wm bd c Z L) (fun _ => wm bd c Z L) (fun r _ => r = b2 (decide (g_ip τ t = 1))) 0 0 := by
  refine cI_start (cc := cX8_isPart) (maxL := 2) RX8 rfl (by decide +kernel) rfl (Nat.le_of_ble_eq_true rfl) ?_
  intro κ hlκ C hr _ E hR hn
  subst hlκ
  have hL : ∀ w ∈ u_ws RX8 TX8 28, w.before (ja κ) (js κ) = true := fun w h => C.t w (mX8_isPart_wsX80 w h)
  have f22 : (Cond.fieldLink RX8 22 "GuardedGrammarModel" (TX8 6).2.1 (TX8 6).2.2.1).before (ja κ) (js κ) = true := C.t (.fieldLink RX8 22 "GuardedGrammarModel" "whole" "[I") (mX8_isPart_o _ (by decide +kernel))
  show J D κ 0 0 0 [(0, .ref (bd 0)), (1, .int (nI (t)))] [] (wm bd c Z L)
  have h48n := hwf.1
  by_cases hip : g_ip τ t = 1
  · have hw := ((hwf.2 t ht).2.2.2.2.2 hip).2.1
    refine j_aload_n C 0 0 dX8_isPart_0 rfl rfl ?_
    refine j_get C 1 (ci := 8) hL rfl 0 (wm_o0 bd c Z L) 6 (by decide) f22 rfl (v := .ref (bd 5)) rfl dX8_isPart_1 ?_
    refine j_iload_n C 4 1 dX8_isPart_4 rfl rfl ?_
    refine j_iald C 5 5 0 (f := Z 5) (wm_a5 bd c Z L) rfl (by omega) (by decide) dX8_isPart_5 ?_
    refine j_eqi (g_EM_wh hE ht hip) ?_
    refine j_if_lt_n C 6 13 (by omega) dX8_isPart_6 (by decide) (fun h => absurd h (by omega)) (fun _ => ?_)
    refine j_iconst C 9 (v := nI 1) dX8_isPart_9 rfl ?_
    refine j_goto C 10 14 dX8_isPart_10 (by decide) ?_
    exact j_ireti C hr E (Nat.le_refl _) (Nat.le_refl _) (by decide) () (bt_1 hip) rfl dX8_isPart_14
  · refine j_aload_n C 0 0 dX8_isPart_0 rfl rfl ?_
    refine j_get C 1 (ci := 8) hL rfl 0 (wm_o0 bd c Z L) 6 (by decide) f22 rfl (v := .ref (bd 5)) rfl dX8_isPart_1 ?_
    refine j_iload_n C 4 1 dX8_isPart_4 rfl rfl ?_
    refine j_iald C 5 5 0 (f := Z 5) (wm_a5 bd c Z L) rfl (by omega) (by decide) dX8_isPart_5 ?_
    refine j_eqi ((hE t ht).2.2.2.2.1.trans (if_neg hip)) ?_
    refine j_if_lt C 6 13 dX8_isPart_6 (by decide) (fun _ => ?_) (fun h => absurd (by decide) h)
    refine j_iconst C 13 (v := nI 0) dX8_isPart_13 rfl ?_
    exact j_ireti C hr E (Nat.le_refl _) (Nat.le_refl _) (by decide) () (bt_0 hip) rfl dX8_isPart_14
set_option maxHeartbeats 4000000 in
set_option maxRecDepth 100000 in
theorem c_X8_add (ll : Launch) (D : va_G) (bd : Nat → Nat) (c : Nat → ClassId) (Z : ZT) (L : LT) {n : Nat} {τ : Tb} (k s : Nat) (cl : List Nat) (v l r : Int32) (hwf : g_WF n τ) (hE : g_EM n τ Z) (hz : Z 41 0 = nI n) (hNC : g_NC n τ k s cl (g_kn τ k cl)) (hv : k = 2 ∨ k = 5 ∨ k = 6 → v = nI s) (hl : l = g_ox cl[0]?) (hr2 : r = g_ox cl[1]?) : cI (S := ZT) ll yX8_add vsX8_add ({ frames := 0, cells := 0, slots := 0, locals := 0 } : Room) D (tysG c) [.ref (bd 0), .int (nI (k)), .int (v), .int (l), .int (r)] (wm bd c Z L) (fun Z' => wm bd c Z' L) (fun r9 Z' => r9 = nI n ∧ g_EM (n + 1) (g_new n τ k s cl (g_kn τ k cl)) Z' ∧ Z' 41 0 = nI (n + 1) ∧ g_fr [1, 2, 3, 4, 5, 6, 41] Z Z') 0 0 := by
  refine cI_start (cc := cX8_add) (maxL := 6) RX8 rfl (by decide +kernel) rfl (Nat.le_of_ble_eq_true rfl) ?_
  intro κ hlκ C hr _ E hR hn
  subst hlκ
  have hL : ∀ w ∈ u_ws RX8 TX8 28, w.before (ja κ) (js κ) = true := fun w h => C.t w (mX8_add_wsX80 w h)
  have f7 : (Cond.fieldLink RX8 7 "GuardedGrammarModel" (TX8 2).2.1 (TX8 2).2.2.1).before (ja κ) (js κ) = true := C.t (.fieldLink RX8 7 "GuardedGrammarModel" "kind" "[I") (mX8_add_o _ (by decide +kernel))
  have f76 : (Cond.fieldLink RX8 76 "GuardedGrammarModel" (TX8 1).2.1 (TX8 1).2.2.1).before (ja κ) (js κ) = true := C.t (.fieldLink RX8 76 "GuardedGrammarModel" "terms" "I") (mX8_add_o _ (by decide +kernel))
  have f13 : (Cond.fieldLink RX8 13 "GuardedGrammarModel" (TX8 3).2.1 (TX8 3).2.2.1).before (ja κ) (js κ) = true := C.t (.fieldLink RX8 13 "GuardedGrammarModel" "sign" "[I") (mX8_add_o _ (by decide +kernel))
  have f16 : (Cond.fieldLink RX8 16 "GuardedGrammarModel" (TX8 4).2.1 (TX8 4).2.2.1).before (ja κ) (js κ) = true := C.t (.fieldLink RX8 16 "GuardedGrammarModel" "one" "[I") (mX8_add_o _ (by decide +kernel))
  have f19 : (Cond.fieldLink RX8 19 "GuardedGrammarModel" (TX8 5).2.1 (TX8 5).2.2.1).before (ja κ) (js κ) = true := C.t (.fieldLink RX8 19 "GuardedGrammarModel" "two" "[I") (mX8_add_o _ (by decide +kernel))
  have f22 : (Cond.fieldLink RX8 22 "GuardedGrammarModel" (TX8 6).2.1 (TX8 6).2.2.1).before (ja κ) (js κ) = true := C.t (.fieldLink RX8 22 "GuardedGrammarModel" "whole" "[I") (mX8_add_o _ (by decide +kernel))
  have f25 : (Cond.fieldLink RX8 25 "GuardedGrammarModel" (TX8 7).2.1 (TX8 7).2.2.1).before (ja κ) (js κ) = true := C.t (.fieldLink RX8 25 "GuardedGrammarModel" "knots" "[I") (mX8_add_o _ (by decide +kernel))
  show J D κ 0 0 0 [(0, .ref (bd 0)), (1, .int (nI (k))), (2, .int (v)), (3, .int (l)), (4, .int (r))] [] (wm bd c Z L)
  have hn48 := hNC.1
  have hkk := hNC.2.1
  have hc2 : cl.length ≤ 2 := by
    obtain ⟨-, -, -, -, -, h6, h34, h0, -⟩ := hNC
    by_cases k6 : k = 6
    · obtain ⟨a, rfl⟩ := h6 k6; simp
    by_cases k3 : k = 3 ∨ k = 4
    · obtain ⟨a, b, -, rfl⟩ := h34 k3; simp
    · rw [h0 (by omega) (by omega) k6]; decide
  have hcl := hNC.2.2.2.2.1
  rcases cl with _ | ⟨a, _ | ⟨b, _ | ⟨c9, t9⟩⟩⟩
  · change l = -1 at hl
    change r = -1 at hr2
    subst hl
    subst hr2
    refine j_aload_n C 0 0 dX8_add_0 rfl rfl ?_
    refine j_get C 1 (ci := 8) hL rfl 0 (wm_o0 bd c Z L) 2 (by decide) f7 rfl (v := .ref (bd 1)) rfl dX8_add_1 ?_
    refine j_aload_n C 4 0 dX8_add_4 rfl rfl ?_
    refine j_get C 5 (ci := 8) hL rfl 0 (wm_o0 bd c Z L) 1 (by decide) f76 rfl (v := .int (Z 41 0)) rfl dX8_add_5 ?_
    refine j_eqi hz ?_
    refine j_iload_n C 8 1 dX8_add_8 rfl rfl ?_
    refine j_iast C 9 1 0 (f := Z 1) (wm_a1 bd c Z L) rfl (by omega) (by decide) (wm_s1 bd c Z L (upd (Z 1) (n) (nI (k)))) dX8_add_9 ?_
    refine j_aload_n C 10 0 dX8_add_10 rfl rfl ?_
    refine j_get C 11 (ci := 8) hL rfl 0 (wm_o0 bd c (upR Z 1 (upd (Z 1) (n) (nI (k)))) L) 3 (by decide) f13 rfl (v := .ref (bd 2)) rfl dX8_add_11 ?_
    refine j_aload_n C 14 0 dX8_add_14 rfl rfl ?_
    refine j_get C 15 (ci := 8) hL rfl 0 (wm_o0 bd c (upR Z 1 (upd (Z 1) (n) (nI (k)))) L) 1 (by decide) f76 rfl (v := .int (Z 41 0)) rfl dX8_add_15 ?_
    refine j_eqi hz ?_
    refine j_iload_n C 18 2 dX8_add_18 rfl rfl ?_
    refine j_iast C 19 2 0 (f := Z 2) (wm_a2 bd c (upR Z 1 (upd (Z 1) (n) (nI (k)))) L) rfl (by omega) (by decide) (wm_s2 bd c (upR Z 1 (upd (Z 1) (n) (nI (k)))) L (upd (Z 2) (n) (v))) dX8_add_19 ?_
    refine j_aload_n C 20 0 dX8_add_20 rfl rfl ?_
    refine j_get C 21 (ci := 8) hL rfl 0 (wm_o0 bd c (upR (upR Z 1 (upd (Z 1) (n) (nI (k)))) 2 (upd (Z 2) (n) (v))) L) 4 (by decide) f16 rfl (v := .ref (bd 3)) rfl dX8_add_21 ?_
    refine j_aload_n C 24 0 dX8_add_24 rfl rfl ?_
    refine j_get C 25 (ci := 8) hL rfl 0 (wm_o0 bd c (upR (upR Z 1 (upd (Z 1) (n) (nI (k)))) 2 (upd (Z 2) (n) (v))) L) 1 (by decide) f76 rfl (v := .int (Z 41 0)) rfl dX8_add_25 ?_
    refine j_eqi hz ?_
    refine j_iload_n C 28 3 dX8_add_28 rfl rfl ?_
    refine j_iast C 29 3 0 (f := Z 3) (wm_a3 bd c (upR (upR Z 1 (upd (Z 1) (n) (nI (k)))) 2 (upd (Z 2) (n) (v))) L) rfl (by omega) (by decide) (wm_s3 bd c (upR (upR Z 1 (upd (Z 1) (n) (nI (k)))) 2 (upd (Z 2) (n) (v))) L (upd (Z 3) (n) (-1))) dX8_add_29 ?_
    refine j_aload_n C 30 0 dX8_add_30 rfl rfl ?_
    refine j_get C 31 (ci := 8) hL rfl 0 (wm_o0 bd c (upR (upR (upR Z 1 (upd (Z 1) (n) (nI (k)))) 2 (upd (Z 2) (n) (v))) 3 (upd (Z 3) (n) (-1))) L) 5 (by decide) f19 rfl (v := .ref (bd 4)) rfl dX8_add_31 ?_
    refine j_aload_n C 34 0 dX8_add_34 rfl rfl ?_
    refine j_get C 35 (ci := 8) hL rfl 0 (wm_o0 bd c (upR (upR (upR Z 1 (upd (Z 1) (n) (nI (k)))) 2 (upd (Z 2) (n) (v))) 3 (upd (Z 3) (n) (-1))) L) 1 (by decide) f76 rfl (v := .int (Z 41 0)) rfl dX8_add_35 ?_
    refine j_eqi hz ?_
    refine j_iload C 38 4 dX8_add_38 rfl ?_
    refine j_iast C 40 4 0 (f := Z 4) (wm_a4 bd c (upR (upR (upR Z 1 (upd (Z 1) (n) (nI (k)))) 2 (upd (Z 2) (n) (v))) 3 (upd (Z 3) (n) (-1))) L) rfl (by omega) (by decide) (wm_s4 bd c (upR (upR (upR Z 1 (upd (Z 1) (n) (nI (k)))) 2 (upd (Z 2) (n) (v))) 3 (upd (Z 3) (n) (-1))) L (upd (Z 4) (n) (-1))) dX8_add_40 ?_
    refine j_aload_n C 41 0 dX8_add_41 rfl rfl ?_
    refine j_get C 42 (ci := 8) hL rfl 0 (wm_o0 bd c (upR (upR (upR (upR Z 1 (upd (Z 1) (n) (nI (k)))) 2 (upd (Z 2) (n) (v))) 3 (upd (Z 3) (n) (-1))) 4 (upd (Z 4) (n) (-1))) L) 6 (by decide) f22 rfl (v := .ref (bd 5)) rfl dX8_add_42 ?_
    refine j_aload_n C 45 0 dX8_add_45 rfl rfl ?_
    refine j_get C 46 (ci := 8) hL rfl 0 (wm_o0 bd c (upR (upR (upR (upR Z 1 (upd (Z 1) (n) (nI (k)))) 2 (upd (Z 2) (n) (v))) 3 (upd (Z 3) (n) (-1))) 4 (upd (Z 4) (n) (-1))) L) 1 (by decide) f76 rfl (v := .int (Z 41 0)) rfl dX8_add_46 ?_
    refine j_eqi hz ?_
    refine j_iconst C 49 (v := -1) dX8_add_49 rfl ?_
    refine j_iast C 50 5 0 (f := Z 5) (wm_a5 bd c (upR (upR (upR (upR Z 1 (upd (Z 1) (n) (nI (k)))) 2 (upd (Z 2) (n) (v))) 3 (upd (Z 3) (n) (-1))) 4 (upd (Z 4) (n) (-1))) L) rfl (by omega) (by decide) (wm_s5 bd c (upR (upR (upR (upR Z 1 (upd (Z 1) (n) (nI (k)))) 2 (upd (Z 2) (n) (v))) 3 (upd (Z 3) (n) (-1))) 4 (upd (Z 4) (n) (-1))) L (upd (Z 5) (n) (-1))) dX8_add_50 ?_
    refine j_iload_n C 51 3 dX8_add_51 rfl rfl ?_
    refine j_if_ge C 52 59 dX8_add_52 (by decide) (fun h => absurd h (by decide)) (fun _ => ?_)
    refine j_iconst C 55 (v := nI 0) dX8_add_55 rfl ?_
    refine j_goto C 56 65 dX8_add_56 (by decide) ?_
    refine j_istore C 65 (lv' := [(5, .int (nI (0))), (0, .ref (bd 0)), (1, .int (nI (k))), (2, .int (v)), (3, .int (-1)), (4, .int (-1))]) dX8_add_65 (by rw [hn]; decide) rfl ?_
    refine j_iload C 67 5 dX8_add_67 rfl ?_
    refine j_if_lt C 69 94 dX8_add_69 (by decide) (fun _ => ?_) (fun h => absurd (by decide) h)
    refine j_iload C 94 0 dX8_add_94 rfl ?_
    refine j_istore C 96 (lv' := [(5, .int (nI (0))), (0, .ref (bd 0)), (1, .int (nI (k))), (2, .int (v)), (3, .int (-1)), (4, .int (-1))]) dX8_add_96 (by rw [hn]; decide) rfl ?_
    refine j_aload_n C 98 1 dX8_add_98 rfl rfl ?_
    refine j_get C 99 (ci := 8) hL rfl 0 (wm_o0 bd c (upR (upR (upR (upR (upR Z 1 (upd (Z 1) (n) (nI (k)))) 2 (upd (Z 2) (n) (v))) 3 (upd (Z 3) (n) (-1))) 4 (upd (Z 4) (n) (-1))) 5 (upd (Z 5) (n) (-1))) L) 7 (by decide) f25 rfl (v := .ref (bd 6)) rfl dX8_add_99 ?_
    refine j_aload_n C 102 1 dX8_add_102 rfl rfl ?_
    refine j_get C 103 (ci := 8) hL rfl 0 (wm_o0 bd c (upR (upR (upR (upR (upR Z 1 (upd (Z 1) (n) (nI (k)))) 2 (upd (Z 2) (n) (v))) 3 (upd (Z 3) (n) (-1))) 4 (upd (Z 4) (n) (-1))) 5 (upd (Z 5) (n) (-1))) L) 1 (by decide) f76 rfl (v := .int (Z 41 0)) rfl dX8_add_103 ?_
    refine j_eqi hz ?_
    refine j_iload_n C 106 2 dX8_add_106 rfl rfl ?_
    refine j_bipush C 107 (v := nI 6) dX8_add_107 rfl ?_
    refine j_icmp_ne_n C 109 119 (by omega) (by omega) dX8_add_109 (by decide) (fun h109 => ?_) (fun h109 => ?_)
    · refine j_iload C 119 0 dX8_add_119 rfl ?_
      refine j_iast C 121 6 0 (f := Z 6) (wm_a6 bd c (upR (upR (upR (upR (upR Z 1 (upd (Z 1) (n) (nI (k)))) 2 (upd (Z 2) (n) (v))) 3 (upd (Z 3) (n) (-1))) 4 (upd (Z 4) (n) (-1))) 5 (upd (Z 5) (n) (-1))) L) rfl (by omega) (by decide) (wm_s6 bd c (upR (upR (upR (upR (upR Z 1 (upd (Z 1) (n) (nI (k)))) 2 (upd (Z 2) (n) (v))) 3 (upd (Z 3) (n) (-1))) 4 (upd (Z 4) (n) (-1))) 5 (upd (Z 5) (n) (-1))) L (upd (Z 6) (n) (nI (0)))) dX8_add_121 ?_
      refine j_iload_n C 122 4 dX8_add_122 rfl rfl ?_
      refine j_if_lt C 123 136 dX8_add_123 (by decide) (fun _ => ?_) (fun h => absurd (by decide) h)
      refine j_iload C 136 5 dX8_add_136 rfl ?_
      refine j_if_lt C 138 152 dX8_add_138 (by decide) (fun _ => ?_) (fun h => absurd (by decide) h)
      refine j_aload_n C 152 1 dX8_add_152 rfl rfl ?_
      refine j_dup C 153 dX8_add_153 rfl ?_
      refine j_get C 154 (ci := 8) hL rfl 0 (wm_o0 bd c (upR (upR (upR (upR (upR (upR Z 1 (upd (Z 1) (n) (nI (k)))) 2 (upd (Z 2) (n) (v))) 3 (upd (Z 3) (n) (-1))) 4 (upd (Z 4) (n) (-1))) 5 (upd (Z 5) (n) (-1))) 6 (upd (Z 6) (n) (nI (0)))) L) 1 (by decide) f76 rfl (v := .int (Z 41 0)) rfl dX8_add_154 ?_
      refine j_eqi hz ?_
      refine j_iconst C 157 (v := nI 1) dX8_add_157 rfl ?_
      refine j_iadd_e C 158 dX8_add_158 (nI_add _ _) ?_
      refine j_put C 159 (ci := 8) hL tyX8_ok nmX8 rfl 0 (wm_o0 bd c (upR (upR (upR (upR (upR (upR Z 1 (upd (Z 1) (n) (nI (k)))) 2 (upd (Z 2) (n) (v))) 3 (upd (Z 3) (n) (-1))) 4 (upd (Z 4) (n) (-1))) 5 (upd (Z 5) (n) (-1))) 6 (upd (Z 6) (n) (nI (0)))) L) 1 (by decide) f76 rfl rfl (tyX8_ok 1 (by decide)) rfl rfl (Nat.le_of_ble_eq_true rfl) (wm_p41 bd c (upR (upR (upR (upR (upR (upR Z 1 (upd (Z 1) (n) (nI (k)))) 2 (upd (Z 2) (n) (v))) 3 (upd (Z 3) (n) (-1))) 4 (upd (Z 4) (n) (-1))) 5 (upd (Z 5) (n) (-1))) 6 (upd (Z 6) (n) (nI (0)))) L (nI (n + 1))) dX8_add_159 ?_
      refine j_aload_n C 162 1 dX8_add_162 rfl rfl ?_
      refine j_get C 163 (ci := 8) hL rfl 0 (wm_o0 bd c (upR (upR (upR (upR (upR (upR (upR Z 1 (upd (Z 1) (n) (nI (k)))) 2 (upd (Z 2) (n) (v))) 3 (upd (Z 3) (n) (-1))) 4 (upd (Z 4) (n) (-1))) 5 (upd (Z 5) (n) (-1))) 6 (upd (Z 6) (n) (nI (0)))) 41 (fun _ => nI (n + 1))) L) 1 (by decide) f76 rfl (v := .int (nI (n + 1))) rfl dX8_add_163 ?_
      refine j_iconst C 166 (v := nI 1) dX8_add_166 rfl ?_
      refine j_isub_e C 167 dX8_add_167 (pk_sub (by omega)) ?_
      refine j_eqi (show nI (n + 1 - 1) = nI n by rw [Nat.add_sub_cancel]) ?_
      exact j_ireti C hr E (Nat.le_refl _) (Nat.le_refl _) rfl (upR (upR (upR (upR (upR (upR (upR Z 1 (upd (Z 1) (n) (nI (k)))) 2 (upd (Z 2) (n) (v))) 3 (upd (Z 3) (n) (-1))) 4 (upd (Z 4) (n) (-1))) 5 (upd (Z 5) (n) (-1))) 6 (upd (Z 6) (n) (nI (0)))) 41 (fun _ => nI (n + 1))) ⟨rfl, g_E_new hE hNC hv rfl rfl rfl rfl rfl rfl (by show upd (Z 6) n _ = upd (Z 6) n (nI (0 + (if k = 6 then 1 else 0))); rw [if_neg h109]) (e_w0), rfl, (g_fr_up (g_fr_up (g_fr_up (g_fr_up (g_fr_up (g_fr_up (g_fr_up g_fr_rfl (by decide) _) (by decide) _) (by decide) _) (by decide) _) (by decide) _) (by decide) _) (by decide) _)⟩ rfl dX8_add_168
    · refine j_iload C 112 0 dX8_add_112 rfl ?_
      refine j_iconst C 114 (v := nI 1) dX8_add_114 rfl ?_
      refine j_iadd_e C 115 dX8_add_115 (nI_add _ _) ?_
      refine j_goto C 116 121 dX8_add_116 (by decide) ?_
      refine j_iast C 121 6 0 (f := Z 6) (wm_a6 bd c (upR (upR (upR (upR (upR Z 1 (upd (Z 1) (n) (nI (k)))) 2 (upd (Z 2) (n) (v))) 3 (upd (Z 3) (n) (-1))) 4 (upd (Z 4) (n) (-1))) 5 (upd (Z 5) (n) (-1))) L) rfl (by omega) (by decide) (wm_s6 bd c (upR (upR (upR (upR (upR Z 1 (upd (Z 1) (n) (nI (k)))) 2 (upd (Z 2) (n) (v))) 3 (upd (Z 3) (n) (-1))) 4 (upd (Z 4) (n) (-1))) 5 (upd (Z 5) (n) (-1))) L (upd (Z 6) (n) (nI (0 + 1)))) dX8_add_121 ?_
      refine j_iload_n C 122 4 dX8_add_122 rfl rfl ?_
      refine j_if_lt C 123 136 dX8_add_123 (by decide) (fun _ => ?_) (fun h => absurd (by decide) h)
      refine j_iload C 136 5 dX8_add_136 rfl ?_
      refine j_if_lt C 138 152 dX8_add_138 (by decide) (fun _ => ?_) (fun h => absurd (by decide) h)
      refine j_aload_n C 152 1 dX8_add_152 rfl rfl ?_
      refine j_dup C 153 dX8_add_153 rfl ?_
      refine j_get C 154 (ci := 8) hL rfl 0 (wm_o0 bd c (upR (upR (upR (upR (upR (upR Z 1 (upd (Z 1) (n) (nI (k)))) 2 (upd (Z 2) (n) (v))) 3 (upd (Z 3) (n) (-1))) 4 (upd (Z 4) (n) (-1))) 5 (upd (Z 5) (n) (-1))) 6 (upd (Z 6) (n) (nI (0 + 1)))) L) 1 (by decide) f76 rfl (v := .int (Z 41 0)) rfl dX8_add_154 ?_
      refine j_eqi hz ?_
      refine j_iconst C 157 (v := nI 1) dX8_add_157 rfl ?_
      refine j_iadd_e C 158 dX8_add_158 (nI_add _ _) ?_
      refine j_put C 159 (ci := 8) hL tyX8_ok nmX8 rfl 0 (wm_o0 bd c (upR (upR (upR (upR (upR (upR Z 1 (upd (Z 1) (n) (nI (k)))) 2 (upd (Z 2) (n) (v))) 3 (upd (Z 3) (n) (-1))) 4 (upd (Z 4) (n) (-1))) 5 (upd (Z 5) (n) (-1))) 6 (upd (Z 6) (n) (nI (0 + 1)))) L) 1 (by decide) f76 rfl rfl (tyX8_ok 1 (by decide)) rfl rfl (Nat.le_of_ble_eq_true rfl) (wm_p41 bd c (upR (upR (upR (upR (upR (upR Z 1 (upd (Z 1) (n) (nI (k)))) 2 (upd (Z 2) (n) (v))) 3 (upd (Z 3) (n) (-1))) 4 (upd (Z 4) (n) (-1))) 5 (upd (Z 5) (n) (-1))) 6 (upd (Z 6) (n) (nI (0 + 1)))) L (nI (n + 1))) dX8_add_159 ?_
      refine j_aload_n C 162 1 dX8_add_162 rfl rfl ?_
      refine j_get C 163 (ci := 8) hL rfl 0 (wm_o0 bd c (upR (upR (upR (upR (upR (upR (upR Z 1 (upd (Z 1) (n) (nI (k)))) 2 (upd (Z 2) (n) (v))) 3 (upd (Z 3) (n) (-1))) 4 (upd (Z 4) (n) (-1))) 5 (upd (Z 5) (n) (-1))) 6 (upd (Z 6) (n) (nI (0 + 1)))) 41 (fun _ => nI (n + 1))) L) 1 (by decide) f76 rfl (v := .int (nI (n + 1))) rfl dX8_add_163 ?_
      refine j_iconst C 166 (v := nI 1) dX8_add_166 rfl ?_
      refine j_isub_e C 167 dX8_add_167 (pk_sub (by omega)) ?_
      refine j_eqi (show nI (n + 1 - 1) = nI n by rw [Nat.add_sub_cancel]) ?_
      exact j_ireti C hr E (Nat.le_refl _) (Nat.le_refl _) rfl (upR (upR (upR (upR (upR (upR (upR Z 1 (upd (Z 1) (n) (nI (k)))) 2 (upd (Z 2) (n) (v))) 3 (upd (Z 3) (n) (-1))) 4 (upd (Z 4) (n) (-1))) 5 (upd (Z 5) (n) (-1))) 6 (upd (Z 6) (n) (nI (0 + 1)))) 41 (fun _ => nI (n + 1))) ⟨rfl, g_E_new hE hNC hv rfl rfl rfl rfl rfl rfl (by show upd (Z 6) n _ = upd (Z 6) n (nI (0 + (if k = 6 then 1 else 0))); rw [if_pos h109]) (e_w0), rfl, (g_fr_up (g_fr_up (g_fr_up (g_fr_up (g_fr_up (g_fr_up (g_fr_up g_fr_rfl (by decide) _) (by decide) _) (by decide) _) (by decide) _) (by decide) _) (by decide) _) (by decide) _)⟩ rfl dX8_add_168
  · change l = nI a at hl
    change r = -1 at hr2
    subst hl
    subst hr2
    have hac := (hcl a (by simp)).1
    have ha3 := (hE a hac).2.2.2.2.2
    refine j_aload_n C 0 0 dX8_add_0 rfl rfl ?_
    refine j_get C 1 (ci := 8) hL rfl 0 (wm_o0 bd c Z L) 2 (by decide) f7 rfl (v := .ref (bd 1)) rfl dX8_add_1 ?_
    refine j_aload_n C 4 0 dX8_add_4 rfl rfl ?_
    refine j_get C 5 (ci := 8) hL rfl 0 (wm_o0 bd c Z L) 1 (by decide) f76 rfl (v := .int (Z 41 0)) rfl dX8_add_5 ?_
    refine j_eqi hz ?_
    refine j_iload_n C 8 1 dX8_add_8 rfl rfl ?_
    refine j_iast C 9 1 0 (f := Z 1) (wm_a1 bd c Z L) rfl (by omega) (by decide) (wm_s1 bd c Z L (upd (Z 1) (n) (nI (k)))) dX8_add_9 ?_
    refine j_aload_n C 10 0 dX8_add_10 rfl rfl ?_
    refine j_get C 11 (ci := 8) hL rfl 0 (wm_o0 bd c (upR Z 1 (upd (Z 1) (n) (nI (k)))) L) 3 (by decide) f13 rfl (v := .ref (bd 2)) rfl dX8_add_11 ?_
    refine j_aload_n C 14 0 dX8_add_14 rfl rfl ?_
    refine j_get C 15 (ci := 8) hL rfl 0 (wm_o0 bd c (upR Z 1 (upd (Z 1) (n) (nI (k)))) L) 1 (by decide) f76 rfl (v := .int (Z 41 0)) rfl dX8_add_15 ?_
    refine j_eqi hz ?_
    refine j_iload_n C 18 2 dX8_add_18 rfl rfl ?_
    refine j_iast C 19 2 0 (f := Z 2) (wm_a2 bd c (upR Z 1 (upd (Z 1) (n) (nI (k)))) L) rfl (by omega) (by decide) (wm_s2 bd c (upR Z 1 (upd (Z 1) (n) (nI (k)))) L (upd (Z 2) (n) (v))) dX8_add_19 ?_
    refine j_aload_n C 20 0 dX8_add_20 rfl rfl ?_
    refine j_get C 21 (ci := 8) hL rfl 0 (wm_o0 bd c (upR (upR Z 1 (upd (Z 1) (n) (nI (k)))) 2 (upd (Z 2) (n) (v))) L) 4 (by decide) f16 rfl (v := .ref (bd 3)) rfl dX8_add_21 ?_
    refine j_aload_n C 24 0 dX8_add_24 rfl rfl ?_
    refine j_get C 25 (ci := 8) hL rfl 0 (wm_o0 bd c (upR (upR Z 1 (upd (Z 1) (n) (nI (k)))) 2 (upd (Z 2) (n) (v))) L) 1 (by decide) f76 rfl (v := .int (Z 41 0)) rfl dX8_add_25 ?_
    refine j_eqi hz ?_
    refine j_iload_n C 28 3 dX8_add_28 rfl rfl ?_
    refine j_iast C 29 3 0 (f := Z 3) (wm_a3 bd c (upR (upR Z 1 (upd (Z 1) (n) (nI (k)))) 2 (upd (Z 2) (n) (v))) L) rfl (by omega) (by decide) (wm_s3 bd c (upR (upR Z 1 (upd (Z 1) (n) (nI (k)))) 2 (upd (Z 2) (n) (v))) L (upd (Z 3) (n) (nI (a)))) dX8_add_29 ?_
    refine j_aload_n C 30 0 dX8_add_30 rfl rfl ?_
    refine j_get C 31 (ci := 8) hL rfl 0 (wm_o0 bd c (upR (upR (upR Z 1 (upd (Z 1) (n) (nI (k)))) 2 (upd (Z 2) (n) (v))) 3 (upd (Z 3) (n) (nI (a)))) L) 5 (by decide) f19 rfl (v := .ref (bd 4)) rfl dX8_add_31 ?_
    refine j_aload_n C 34 0 dX8_add_34 rfl rfl ?_
    refine j_get C 35 (ci := 8) hL rfl 0 (wm_o0 bd c (upR (upR (upR Z 1 (upd (Z 1) (n) (nI (k)))) 2 (upd (Z 2) (n) (v))) 3 (upd (Z 3) (n) (nI (a)))) L) 1 (by decide) f76 rfl (v := .int (Z 41 0)) rfl dX8_add_35 ?_
    refine j_eqi hz ?_
    refine j_iload C 38 4 dX8_add_38 rfl ?_
    refine j_iast C 40 4 0 (f := Z 4) (wm_a4 bd c (upR (upR (upR Z 1 (upd (Z 1) (n) (nI (k)))) 2 (upd (Z 2) (n) (v))) 3 (upd (Z 3) (n) (nI (a)))) L) rfl (by omega) (by decide) (wm_s4 bd c (upR (upR (upR Z 1 (upd (Z 1) (n) (nI (k)))) 2 (upd (Z 2) (n) (v))) 3 (upd (Z 3) (n) (nI (a)))) L (upd (Z 4) (n) (-1))) dX8_add_40 ?_
    refine j_aload_n C 41 0 dX8_add_41 rfl rfl ?_
    refine j_get C 42 (ci := 8) hL rfl 0 (wm_o0 bd c (upR (upR (upR (upR Z 1 (upd (Z 1) (n) (nI (k)))) 2 (upd (Z 2) (n) (v))) 3 (upd (Z 3) (n) (nI (a)))) 4 (upd (Z 4) (n) (-1))) L) 6 (by decide) f22 rfl (v := .ref (bd 5)) rfl dX8_add_42 ?_
    refine j_aload_n C 45 0 dX8_add_45 rfl rfl ?_
    refine j_get C 46 (ci := 8) hL rfl 0 (wm_o0 bd c (upR (upR (upR (upR Z 1 (upd (Z 1) (n) (nI (k)))) 2 (upd (Z 2) (n) (v))) 3 (upd (Z 3) (n) (nI (a)))) 4 (upd (Z 4) (n) (-1))) L) 1 (by decide) f76 rfl (v := .int (Z 41 0)) rfl dX8_add_46 ?_
    refine j_eqi hz ?_
    refine j_iconst C 49 (v := -1) dX8_add_49 rfl ?_
    refine j_iast C 50 5 0 (f := Z 5) (wm_a5 bd c (upR (upR (upR (upR Z 1 (upd (Z 1) (n) (nI (k)))) 2 (upd (Z 2) (n) (v))) 3 (upd (Z 3) (n) (nI (a)))) 4 (upd (Z 4) (n) (-1))) L) rfl (by omega) (by decide) (wm_s5 bd c (upR (upR (upR (upR Z 1 (upd (Z 1) (n) (nI (k)))) 2 (upd (Z 2) (n) (v))) 3 (upd (Z 3) (n) (nI (a)))) 4 (upd (Z 4) (n) (-1))) L (upd (Z 5) (n) (-1))) dX8_add_50 ?_
    refine j_iload_n C 51 3 dX8_add_51 rfl rfl ?_
    refine j_if_ge_n C 52 59 (by omega) dX8_add_52 (by decide) (fun _ => ?_) (fun h => absurd h (by omega))
    refine j_aload_n C 59 0 dX8_add_59 rfl rfl ?_
    refine j_get C 60 (ci := 8) hL rfl 0 (wm_o0 bd c (upR (upR (upR (upR (upR Z 1 (upd (Z 1) (n) (nI (k)))) 2 (upd (Z 2) (n) (v))) 3 (upd (Z 3) (n) (nI (a)))) 4 (upd (Z 4) (n) (-1))) 5 (upd (Z 5) (n) (-1))) L) 7 (by decide) f25 rfl (v := .ref (bd 6)) rfl dX8_add_60 ?_
    refine j_iload_n C 63 3 dX8_add_63 rfl rfl ?_
    refine j_iald C 64 6 0 (f := Z 6) (wm_a6 bd c (upR (upR (upR (upR (upR Z 1 (upd (Z 1) (n) (nI (k)))) 2 (upd (Z 2) (n) (v))) 3 (upd (Z 3) (n) (nI (a)))) 4 (upd (Z 4) (n) (-1))) 5 (upd (Z 5) (n) (-1))) L) rfl (by omega) (by decide) dX8_add_64 ?_
    refine j_eqi ha3.1 ?_
    refine j_istore C 65 (lv' := [(5, .int (nI (τ 6 a))), (0, .ref (bd 0)), (1, .int (nI (k))), (2, .int (v)), (3, .int (nI (a))), (4, .int (-1))]) dX8_add_65 (by rw [hn]; decide) rfl ?_
    refine j_iload C 67 5 dX8_add_67 rfl ?_
    refine j_if_lt C 69 94 dX8_add_69 (by decide) (fun _ => ?_) (fun h => absurd (by decide) h)
    refine j_iload C 94 0 dX8_add_94 rfl ?_
    refine j_istore C 96 (lv' := [(5, .int (nI (τ 6 a))), (0, .ref (bd 0)), (1, .int (nI (k))), (2, .int (v)), (3, .int (nI (a))), (4, .int (-1))]) dX8_add_96 (by rw [hn]; decide) rfl ?_
    refine j_aload_n C 98 1 dX8_add_98 rfl rfl ?_
    refine j_get C 99 (ci := 8) hL rfl 0 (wm_o0 bd c (upR (upR (upR (upR (upR Z 1 (upd (Z 1) (n) (nI (k)))) 2 (upd (Z 2) (n) (v))) 3 (upd (Z 3) (n) (nI (a)))) 4 (upd (Z 4) (n) (-1))) 5 (upd (Z 5) (n) (-1))) L) 7 (by decide) f25 rfl (v := .ref (bd 6)) rfl dX8_add_99 ?_
    refine j_aload_n C 102 1 dX8_add_102 rfl rfl ?_
    refine j_get C 103 (ci := 8) hL rfl 0 (wm_o0 bd c (upR (upR (upR (upR (upR Z 1 (upd (Z 1) (n) (nI (k)))) 2 (upd (Z 2) (n) (v))) 3 (upd (Z 3) (n) (nI (a)))) 4 (upd (Z 4) (n) (-1))) 5 (upd (Z 5) (n) (-1))) L) 1 (by decide) f76 rfl (v := .int (Z 41 0)) rfl dX8_add_103 ?_
    refine j_eqi hz ?_
    refine j_iload_n C 106 2 dX8_add_106 rfl rfl ?_
    refine j_bipush C 107 (v := nI 6) dX8_add_107 rfl ?_
    refine j_icmp_ne_n C 109 119 (by omega) (by omega) dX8_add_109 (by decide) (fun h109 => ?_) (fun h109 => ?_)
    · refine j_iload C 119 0 dX8_add_119 rfl ?_
      refine j_iast C 121 6 0 (f := Z 6) (wm_a6 bd c (upR (upR (upR (upR (upR Z 1 (upd (Z 1) (n) (nI (k)))) 2 (upd (Z 2) (n) (v))) 3 (upd (Z 3) (n) (nI (a)))) 4 (upd (Z 4) (n) (-1))) 5 (upd (Z 5) (n) (-1))) L) rfl (by omega) (by decide) (wm_s6 bd c (upR (upR (upR (upR (upR Z 1 (upd (Z 1) (n) (nI (k)))) 2 (upd (Z 2) (n) (v))) 3 (upd (Z 3) (n) (nI (a)))) 4 (upd (Z 4) (n) (-1))) 5 (upd (Z 5) (n) (-1))) L (upd (Z 6) (n) (nI (τ 6 a)))) dX8_add_121 ?_
      refine j_iload_n C 122 4 dX8_add_122 rfl rfl ?_
      refine j_if_lt_n C 123 136 (by omega) dX8_add_123 (by decide) (fun h => absurd h (by omega)) (fun _ => ?_)
      refine j_aload_n C 126 1 dX8_add_126 rfl rfl ?_
      refine j_get C 127 (ci := 8) hL rfl 0 (wm_o0 bd c (upR (upR (upR (upR (upR (upR Z 1 (upd (Z 1) (n) (nI (k)))) 2 (upd (Z 2) (n) (v))) 3 (upd (Z 3) (n) (nI (a)))) 4 (upd (Z 4) (n) (-1))) 5 (upd (Z 5) (n) (-1))) 6 (upd (Z 6) (n) (nI (τ 6 a)))) L) 6 (by decide) f22 rfl (v := .ref (bd 5)) rfl dX8_add_127 ?_
      refine j_iload_n C 130 4 dX8_add_130 rfl rfl ?_
      refine j_aload_n C 131 1 dX8_add_131 rfl rfl ?_
      refine j_get C 132 (ci := 8) hL rfl 0 (wm_o0 bd c (upR (upR (upR (upR (upR (upR Z 1 (upd (Z 1) (n) (nI (k)))) 2 (upd (Z 2) (n) (v))) 3 (upd (Z 3) (n) (nI (a)))) 4 (upd (Z 4) (n) (-1))) 5 (upd (Z 5) (n) (-1))) 6 (upd (Z 6) (n) (nI (τ 6 a)))) L) 1 (by decide) f76 rfl (v := .int (Z 41 0)) rfl dX8_add_132 ?_
      refine j_eqi hz ?_
      refine j_iast C 135 5 0 (f := upd (Z 5) (n) (-1)) (wm_a5 bd c (upR (upR (upR (upR (upR (upR Z 1 (upd (Z 1) (n) (nI (k)))) 2 (upd (Z 2) (n) (v))) 3 (upd (Z 3) (n) (nI (a)))) 4 (upd (Z 4) (n) (-1))) 5 (upd (Z 5) (n) (-1))) 6 (upd (Z 6) (n) (nI (τ 6 a)))) L) rfl (by omega) (by decide) (wm_s5 bd c (upR (upR (upR (upR (upR (upR Z 1 (upd (Z 1) (n) (nI (k)))) 2 (upd (Z 2) (n) (v))) 3 (upd (Z 3) (n) (nI (a)))) 4 (upd (Z 4) (n) (-1))) 5 (upd (Z 5) (n) (-1))) 6 (upd (Z 6) (n) (nI (τ 6 a)))) L (upd (upd (Z 5) (n) (-1)) (a) (nI (n)))) dX8_add_135 ?_
      refine j_iload C 136 5 dX8_add_136 rfl ?_
      refine j_if_lt C 138 152 dX8_add_138 (by decide) (fun _ => ?_) (fun h => absurd (by decide) h)
      refine j_aload_n C 152 1 dX8_add_152 rfl rfl ?_
      refine j_dup C 153 dX8_add_153 rfl ?_
      refine j_get C 154 (ci := 8) hL rfl 0 (wm_o0 bd c (upR (upR (upR (upR (upR (upR (upR Z 1 (upd (Z 1) (n) (nI (k)))) 2 (upd (Z 2) (n) (v))) 3 (upd (Z 3) (n) (nI (a)))) 4 (upd (Z 4) (n) (-1))) 5 (upd (Z 5) (n) (-1))) 6 (upd (Z 6) (n) (nI (τ 6 a)))) 5 (upd (upd (Z 5) (n) (-1)) (a) (nI (n)))) L) 1 (by decide) f76 rfl (v := .int (Z 41 0)) rfl dX8_add_154 ?_
      refine j_eqi hz ?_
      refine j_iconst C 157 (v := nI 1) dX8_add_157 rfl ?_
      refine j_iadd_e C 158 dX8_add_158 (nI_add _ _) ?_
      refine j_put C 159 (ci := 8) hL tyX8_ok nmX8 rfl 0 (wm_o0 bd c (upR (upR (upR (upR (upR (upR (upR Z 1 (upd (Z 1) (n) (nI (k)))) 2 (upd (Z 2) (n) (v))) 3 (upd (Z 3) (n) (nI (a)))) 4 (upd (Z 4) (n) (-1))) 5 (upd (Z 5) (n) (-1))) 6 (upd (Z 6) (n) (nI (τ 6 a)))) 5 (upd (upd (Z 5) (n) (-1)) (a) (nI (n)))) L) 1 (by decide) f76 rfl rfl (tyX8_ok 1 (by decide)) rfl rfl (Nat.le_of_ble_eq_true rfl) (wm_p41 bd c (upR (upR (upR (upR (upR (upR (upR Z 1 (upd (Z 1) (n) (nI (k)))) 2 (upd (Z 2) (n) (v))) 3 (upd (Z 3) (n) (nI (a)))) 4 (upd (Z 4) (n) (-1))) 5 (upd (Z 5) (n) (-1))) 6 (upd (Z 6) (n) (nI (τ 6 a)))) 5 (upd (upd (Z 5) (n) (-1)) (a) (nI (n)))) L (nI (n + 1))) dX8_add_159 ?_
      refine j_aload_n C 162 1 dX8_add_162 rfl rfl ?_
      refine j_get C 163 (ci := 8) hL rfl 0 (wm_o0 bd c (upR (upR (upR (upR (upR (upR (upR (upR Z 1 (upd (Z 1) (n) (nI (k)))) 2 (upd (Z 2) (n) (v))) 3 (upd (Z 3) (n) (nI (a)))) 4 (upd (Z 4) (n) (-1))) 5 (upd (Z 5) (n) (-1))) 6 (upd (Z 6) (n) (nI (τ 6 a)))) 5 (upd (upd (Z 5) (n) (-1)) (a) (nI (n)))) 41 (fun _ => nI (n + 1))) L) 1 (by decide) f76 rfl (v := .int (nI (n + 1))) rfl dX8_add_163 ?_
      refine j_iconst C 166 (v := nI 1) dX8_add_166 rfl ?_
      refine j_isub_e C 167 dX8_add_167 (pk_sub (by omega)) ?_
      refine j_eqi (show nI (n + 1 - 1) = nI n by rw [Nat.add_sub_cancel]) ?_
      exact j_ireti C hr E (Nat.le_refl _) (Nat.le_refl _) rfl (upR (upR (upR (upR (upR (upR (upR (upR Z 1 (upd (Z 1) (n) (nI (k)))) 2 (upd (Z 2) (n) (v))) 3 (upd (Z 3) (n) (nI (a)))) 4 (upd (Z 4) (n) (-1))) 5 (upd (Z 5) (n) (-1))) 6 (upd (Z 6) (n) (nI (τ 6 a)))) 5 (upd (upd (Z 5) (n) (-1)) (a) (nI (n)))) 41 (fun _ => nI (n + 1))) ⟨rfl, g_E_new hE hNC hv rfl rfl rfl rfl rfl rfl (by show upd (Z 6) n _ = upd (Z 6) n (nI (τ 6 a + (if k = 6 then 1 else 0))); rw [if_neg h109, Nat.add_zero]) (e_w1 hac), rfl, (g_fr_up (g_fr_up (g_fr_up (g_fr_up (g_fr_up (g_fr_up (g_fr_up (g_fr_up g_fr_rfl (by decide) _) (by decide) _) (by decide) _) (by decide) _) (by decide) _) (by decide) _) (by decide) _) (by decide) _)⟩ rfl dX8_add_168
    · refine j_iload C 112 0 dX8_add_112 rfl ?_
      refine j_iconst C 114 (v := nI 1) dX8_add_114 rfl ?_
      refine j_iadd_e C 115 dX8_add_115 (nI_add _ _) ?_
      refine j_goto C 116 121 dX8_add_116 (by decide) ?_
      refine j_iast C 121 6 0 (f := Z 6) (wm_a6 bd c (upR (upR (upR (upR (upR Z 1 (upd (Z 1) (n) (nI (k)))) 2 (upd (Z 2) (n) (v))) 3 (upd (Z 3) (n) (nI (a)))) 4 (upd (Z 4) (n) (-1))) 5 (upd (Z 5) (n) (-1))) L) rfl (by omega) (by decide) (wm_s6 bd c (upR (upR (upR (upR (upR Z 1 (upd (Z 1) (n) (nI (k)))) 2 (upd (Z 2) (n) (v))) 3 (upd (Z 3) (n) (nI (a)))) 4 (upd (Z 4) (n) (-1))) 5 (upd (Z 5) (n) (-1))) L (upd (Z 6) (n) (nI (τ 6 a + 1)))) dX8_add_121 ?_
      refine j_iload_n C 122 4 dX8_add_122 rfl rfl ?_
      refine j_if_lt_n C 123 136 (by omega) dX8_add_123 (by decide) (fun h => absurd h (by omega)) (fun _ => ?_)
      refine j_aload_n C 126 1 dX8_add_126 rfl rfl ?_
      refine j_get C 127 (ci := 8) hL rfl 0 (wm_o0 bd c (upR (upR (upR (upR (upR (upR Z 1 (upd (Z 1) (n) (nI (k)))) 2 (upd (Z 2) (n) (v))) 3 (upd (Z 3) (n) (nI (a)))) 4 (upd (Z 4) (n) (-1))) 5 (upd (Z 5) (n) (-1))) 6 (upd (Z 6) (n) (nI (τ 6 a + 1)))) L) 6 (by decide) f22 rfl (v := .ref (bd 5)) rfl dX8_add_127 ?_
      refine j_iload_n C 130 4 dX8_add_130 rfl rfl ?_
      refine j_aload_n C 131 1 dX8_add_131 rfl rfl ?_
      refine j_get C 132 (ci := 8) hL rfl 0 (wm_o0 bd c (upR (upR (upR (upR (upR (upR Z 1 (upd (Z 1) (n) (nI (k)))) 2 (upd (Z 2) (n) (v))) 3 (upd (Z 3) (n) (nI (a)))) 4 (upd (Z 4) (n) (-1))) 5 (upd (Z 5) (n) (-1))) 6 (upd (Z 6) (n) (nI (τ 6 a + 1)))) L) 1 (by decide) f76 rfl (v := .int (Z 41 0)) rfl dX8_add_132 ?_
      refine j_eqi hz ?_
      refine j_iast C 135 5 0 (f := upd (Z 5) (n) (-1)) (wm_a5 bd c (upR (upR (upR (upR (upR (upR Z 1 (upd (Z 1) (n) (nI (k)))) 2 (upd (Z 2) (n) (v))) 3 (upd (Z 3) (n) (nI (a)))) 4 (upd (Z 4) (n) (-1))) 5 (upd (Z 5) (n) (-1))) 6 (upd (Z 6) (n) (nI (τ 6 a + 1)))) L) rfl (by omega) (by decide) (wm_s5 bd c (upR (upR (upR (upR (upR (upR Z 1 (upd (Z 1) (n) (nI (k)))) 2 (upd (Z 2) (n) (v))) 3 (upd (Z 3) (n) (nI (a)))) 4 (upd (Z 4) (n) (-1))) 5 (upd (Z 5) (n) (-1))) 6 (upd (Z 6) (n) (nI (τ 6 a + 1)))) L (upd (upd (Z 5) (n) (-1)) (a) (nI (n)))) dX8_add_135 ?_
      refine j_iload C 136 5 dX8_add_136 rfl ?_
      refine j_if_lt C 138 152 dX8_add_138 (by decide) (fun _ => ?_) (fun h => absurd (by decide) h)
      refine j_aload_n C 152 1 dX8_add_152 rfl rfl ?_
      refine j_dup C 153 dX8_add_153 rfl ?_
      refine j_get C 154 (ci := 8) hL rfl 0 (wm_o0 bd c (upR (upR (upR (upR (upR (upR (upR Z 1 (upd (Z 1) (n) (nI (k)))) 2 (upd (Z 2) (n) (v))) 3 (upd (Z 3) (n) (nI (a)))) 4 (upd (Z 4) (n) (-1))) 5 (upd (Z 5) (n) (-1))) 6 (upd (Z 6) (n) (nI (τ 6 a + 1)))) 5 (upd (upd (Z 5) (n) (-1)) (a) (nI (n)))) L) 1 (by decide) f76 rfl (v := .int (Z 41 0)) rfl dX8_add_154 ?_
      refine j_eqi hz ?_
      refine j_iconst C 157 (v := nI 1) dX8_add_157 rfl ?_
      refine j_iadd_e C 158 dX8_add_158 (nI_add _ _) ?_
      refine j_put C 159 (ci := 8) hL tyX8_ok nmX8 rfl 0 (wm_o0 bd c (upR (upR (upR (upR (upR (upR (upR Z 1 (upd (Z 1) (n) (nI (k)))) 2 (upd (Z 2) (n) (v))) 3 (upd (Z 3) (n) (nI (a)))) 4 (upd (Z 4) (n) (-1))) 5 (upd (Z 5) (n) (-1))) 6 (upd (Z 6) (n) (nI (τ 6 a + 1)))) 5 (upd (upd (Z 5) (n) (-1)) (a) (nI (n)))) L) 1 (by decide) f76 rfl rfl (tyX8_ok 1 (by decide)) rfl rfl (Nat.le_of_ble_eq_true rfl) (wm_p41 bd c (upR (upR (upR (upR (upR (upR (upR Z 1 (upd (Z 1) (n) (nI (k)))) 2 (upd (Z 2) (n) (v))) 3 (upd (Z 3) (n) (nI (a)))) 4 (upd (Z 4) (n) (-1))) 5 (upd (Z 5) (n) (-1))) 6 (upd (Z 6) (n) (nI (τ 6 a + 1)))) 5 (upd (upd (Z 5) (n) (-1)) (a) (nI (n)))) L (nI (n + 1))) dX8_add_159 ?_
      refine j_aload_n C 162 1 dX8_add_162 rfl rfl ?_
      refine j_get C 163 (ci := 8) hL rfl 0 (wm_o0 bd c (upR (upR (upR (upR (upR (upR (upR (upR Z 1 (upd (Z 1) (n) (nI (k)))) 2 (upd (Z 2) (n) (v))) 3 (upd (Z 3) (n) (nI (a)))) 4 (upd (Z 4) (n) (-1))) 5 (upd (Z 5) (n) (-1))) 6 (upd (Z 6) (n) (nI (τ 6 a + 1)))) 5 (upd (upd (Z 5) (n) (-1)) (a) (nI (n)))) 41 (fun _ => nI (n + 1))) L) 1 (by decide) f76 rfl (v := .int (nI (n + 1))) rfl dX8_add_163 ?_
      refine j_iconst C 166 (v := nI 1) dX8_add_166 rfl ?_
      refine j_isub_e C 167 dX8_add_167 (pk_sub (by omega)) ?_
      refine j_eqi (show nI (n + 1 - 1) = nI n by rw [Nat.add_sub_cancel]) ?_
      exact j_ireti C hr E (Nat.le_refl _) (Nat.le_refl _) rfl (upR (upR (upR (upR (upR (upR (upR (upR Z 1 (upd (Z 1) (n) (nI (k)))) 2 (upd (Z 2) (n) (v))) 3 (upd (Z 3) (n) (nI (a)))) 4 (upd (Z 4) (n) (-1))) 5 (upd (Z 5) (n) (-1))) 6 (upd (Z 6) (n) (nI (τ 6 a + 1)))) 5 (upd (upd (Z 5) (n) (-1)) (a) (nI (n)))) 41 (fun _ => nI (n + 1))) ⟨rfl, g_E_new hE hNC hv rfl rfl rfl rfl rfl rfl (by show upd (Z 6) n _ = upd (Z 6) n (nI (τ 6 a + (if k = 6 then 1 else 0))); rw [if_pos h109]) (e_w1 hac), rfl, (g_fr_up (g_fr_up (g_fr_up (g_fr_up (g_fr_up (g_fr_up (g_fr_up (g_fr_up g_fr_rfl (by decide) _) (by decide) _) (by decide) _) (by decide) _) (by decide) _) (by decide) _) (by decide) _) (by decide) _)⟩ rfl dX8_add_168
  · change l = nI a at hl
    change r = nI b at hr2
    subst hl
    subst hr2
    have hac := (hcl a (by simp)).1
    have ha3 := (hE a hac).2.2.2.2.2
    have hbc := (hcl b (by simp)).1
    have hb3 := (hE b hbc).2.2.2.2.2
    refine j_aload_n C 0 0 dX8_add_0 rfl rfl ?_
    refine j_get C 1 (ci := 8) hL rfl 0 (wm_o0 bd c Z L) 2 (by decide) f7 rfl (v := .ref (bd 1)) rfl dX8_add_1 ?_
    refine j_aload_n C 4 0 dX8_add_4 rfl rfl ?_
    refine j_get C 5 (ci := 8) hL rfl 0 (wm_o0 bd c Z L) 1 (by decide) f76 rfl (v := .int (Z 41 0)) rfl dX8_add_5 ?_
    refine j_eqi hz ?_
    refine j_iload_n C 8 1 dX8_add_8 rfl rfl ?_
    refine j_iast C 9 1 0 (f := Z 1) (wm_a1 bd c Z L) rfl (by omega) (by decide) (wm_s1 bd c Z L (upd (Z 1) (n) (nI (k)))) dX8_add_9 ?_
    refine j_aload_n C 10 0 dX8_add_10 rfl rfl ?_
    refine j_get C 11 (ci := 8) hL rfl 0 (wm_o0 bd c (upR Z 1 (upd (Z 1) (n) (nI (k)))) L) 3 (by decide) f13 rfl (v := .ref (bd 2)) rfl dX8_add_11 ?_
    refine j_aload_n C 14 0 dX8_add_14 rfl rfl ?_
    refine j_get C 15 (ci := 8) hL rfl 0 (wm_o0 bd c (upR Z 1 (upd (Z 1) (n) (nI (k)))) L) 1 (by decide) f76 rfl (v := .int (Z 41 0)) rfl dX8_add_15 ?_
    refine j_eqi hz ?_
    refine j_iload_n C 18 2 dX8_add_18 rfl rfl ?_
    refine j_iast C 19 2 0 (f := Z 2) (wm_a2 bd c (upR Z 1 (upd (Z 1) (n) (nI (k)))) L) rfl (by omega) (by decide) (wm_s2 bd c (upR Z 1 (upd (Z 1) (n) (nI (k)))) L (upd (Z 2) (n) (v))) dX8_add_19 ?_
    refine j_aload_n C 20 0 dX8_add_20 rfl rfl ?_
    refine j_get C 21 (ci := 8) hL rfl 0 (wm_o0 bd c (upR (upR Z 1 (upd (Z 1) (n) (nI (k)))) 2 (upd (Z 2) (n) (v))) L) 4 (by decide) f16 rfl (v := .ref (bd 3)) rfl dX8_add_21 ?_
    refine j_aload_n C 24 0 dX8_add_24 rfl rfl ?_
    refine j_get C 25 (ci := 8) hL rfl 0 (wm_o0 bd c (upR (upR Z 1 (upd (Z 1) (n) (nI (k)))) 2 (upd (Z 2) (n) (v))) L) 1 (by decide) f76 rfl (v := .int (Z 41 0)) rfl dX8_add_25 ?_
    refine j_eqi hz ?_
    refine j_iload_n C 28 3 dX8_add_28 rfl rfl ?_
    refine j_iast C 29 3 0 (f := Z 3) (wm_a3 bd c (upR (upR Z 1 (upd (Z 1) (n) (nI (k)))) 2 (upd (Z 2) (n) (v))) L) rfl (by omega) (by decide) (wm_s3 bd c (upR (upR Z 1 (upd (Z 1) (n) (nI (k)))) 2 (upd (Z 2) (n) (v))) L (upd (Z 3) (n) (nI (a)))) dX8_add_29 ?_
    refine j_aload_n C 30 0 dX8_add_30 rfl rfl ?_
    refine j_get C 31 (ci := 8) hL rfl 0 (wm_o0 bd c (upR (upR (upR Z 1 (upd (Z 1) (n) (nI (k)))) 2 (upd (Z 2) (n) (v))) 3 (upd (Z 3) (n) (nI (a)))) L) 5 (by decide) f19 rfl (v := .ref (bd 4)) rfl dX8_add_31 ?_
    refine j_aload_n C 34 0 dX8_add_34 rfl rfl ?_
    refine j_get C 35 (ci := 8) hL rfl 0 (wm_o0 bd c (upR (upR (upR Z 1 (upd (Z 1) (n) (nI (k)))) 2 (upd (Z 2) (n) (v))) 3 (upd (Z 3) (n) (nI (a)))) L) 1 (by decide) f76 rfl (v := .int (Z 41 0)) rfl dX8_add_35 ?_
    refine j_eqi hz ?_
    refine j_iload C 38 4 dX8_add_38 rfl ?_
    refine j_iast C 40 4 0 (f := Z 4) (wm_a4 bd c (upR (upR (upR Z 1 (upd (Z 1) (n) (nI (k)))) 2 (upd (Z 2) (n) (v))) 3 (upd (Z 3) (n) (nI (a)))) L) rfl (by omega) (by decide) (wm_s4 bd c (upR (upR (upR Z 1 (upd (Z 1) (n) (nI (k)))) 2 (upd (Z 2) (n) (v))) 3 (upd (Z 3) (n) (nI (a)))) L (upd (Z 4) (n) (nI (b)))) dX8_add_40 ?_
    refine j_aload_n C 41 0 dX8_add_41 rfl rfl ?_
    refine j_get C 42 (ci := 8) hL rfl 0 (wm_o0 bd c (upR (upR (upR (upR Z 1 (upd (Z 1) (n) (nI (k)))) 2 (upd (Z 2) (n) (v))) 3 (upd (Z 3) (n) (nI (a)))) 4 (upd (Z 4) (n) (nI (b)))) L) 6 (by decide) f22 rfl (v := .ref (bd 5)) rfl dX8_add_42 ?_
    refine j_aload_n C 45 0 dX8_add_45 rfl rfl ?_
    refine j_get C 46 (ci := 8) hL rfl 0 (wm_o0 bd c (upR (upR (upR (upR Z 1 (upd (Z 1) (n) (nI (k)))) 2 (upd (Z 2) (n) (v))) 3 (upd (Z 3) (n) (nI (a)))) 4 (upd (Z 4) (n) (nI (b)))) L) 1 (by decide) f76 rfl (v := .int (Z 41 0)) rfl dX8_add_46 ?_
    refine j_eqi hz ?_
    refine j_iconst C 49 (v := -1) dX8_add_49 rfl ?_
    refine j_iast C 50 5 0 (f := Z 5) (wm_a5 bd c (upR (upR (upR (upR Z 1 (upd (Z 1) (n) (nI (k)))) 2 (upd (Z 2) (n) (v))) 3 (upd (Z 3) (n) (nI (a)))) 4 (upd (Z 4) (n) (nI (b)))) L) rfl (by omega) (by decide) (wm_s5 bd c (upR (upR (upR (upR Z 1 (upd (Z 1) (n) (nI (k)))) 2 (upd (Z 2) (n) (v))) 3 (upd (Z 3) (n) (nI (a)))) 4 (upd (Z 4) (n) (nI (b)))) L (upd (Z 5) (n) (-1))) dX8_add_50 ?_
    refine j_iload_n C 51 3 dX8_add_51 rfl rfl ?_
    refine j_if_ge_n C 52 59 (by omega) dX8_add_52 (by decide) (fun _ => ?_) (fun h => absurd h (by omega))
    refine j_aload_n C 59 0 dX8_add_59 rfl rfl ?_
    refine j_get C 60 (ci := 8) hL rfl 0 (wm_o0 bd c (upR (upR (upR (upR (upR Z 1 (upd (Z 1) (n) (nI (k)))) 2 (upd (Z 2) (n) (v))) 3 (upd (Z 3) (n) (nI (a)))) 4 (upd (Z 4) (n) (nI (b)))) 5 (upd (Z 5) (n) (-1))) L) 7 (by decide) f25 rfl (v := .ref (bd 6)) rfl dX8_add_60 ?_
    refine j_iload_n C 63 3 dX8_add_63 rfl rfl ?_
    refine j_iald C 64 6 0 (f := Z 6) (wm_a6 bd c (upR (upR (upR (upR (upR Z 1 (upd (Z 1) (n) (nI (k)))) 2 (upd (Z 2) (n) (v))) 3 (upd (Z 3) (n) (nI (a)))) 4 (upd (Z 4) (n) (nI (b)))) 5 (upd (Z 5) (n) (-1))) L) rfl (by omega) (by decide) dX8_add_64 ?_
    refine j_eqi ha3.1 ?_
    refine j_istore C 65 (lv' := [(5, .int (nI (τ 6 a))), (0, .ref (bd 0)), (1, .int (nI (k))), (2, .int (v)), (3, .int (nI (a))), (4, .int (nI (b)))]) dX8_add_65 (by rw [hn]; decide) rfl ?_
    refine j_iload C 67 5 dX8_add_67 rfl ?_
    refine j_if_lt_n C 69 94 (by omega) dX8_add_69 (by decide) (fun h => absurd h (by omega)) (fun _ => ?_)
    refine j_aload_n C 72 1 dX8_add_72 rfl rfl ?_
    refine j_get C 73 (ci := 8) hL rfl 0 (wm_o0 bd c (upR (upR (upR (upR (upR Z 1 (upd (Z 1) (n) (nI (k)))) 2 (upd (Z 2) (n) (v))) 3 (upd (Z 3) (n) (nI (a)))) 4 (upd (Z 4) (n) (nI (b)))) 5 (upd (Z 5) (n) (-1))) L) 7 (by decide) f25 rfl (v := .ref (bd 6)) rfl dX8_add_73 ?_
    refine j_iload C 76 5 dX8_add_76 rfl ?_
    refine j_iald C 78 6 0 (f := Z 6) (wm_a6 bd c (upR (upR (upR (upR (upR Z 1 (upd (Z 1) (n) (nI (k)))) 2 (upd (Z 2) (n) (v))) 3 (upd (Z 3) (n) (nI (a)))) 4 (upd (Z 4) (n) (nI (b)))) 5 (upd (Z 5) (n) (-1))) L) rfl (by omega) (by decide) dX8_add_78 ?_
    refine j_eqi hb3.1 ?_
    refine j_iload C 79 0 dX8_add_79 rfl ?_
    refine j_icmp_le_n C 81 94 (by omega) (by omega) dX8_add_81 (by decide) (fun h81 => ?_) (fun h81 => ?_)
    · refine j_iload C 94 0 dX8_add_94 rfl ?_
      refine j_istore C 96 (lv' := [(5, .int (nI (τ 6 a))), (0, .ref (bd 0)), (1, .int (nI (k))), (2, .int (v)), (3, .int (nI (a))), (4, .int (nI (b)))]) dX8_add_96 (by rw [hn]; decide) rfl ?_
      refine j_aload_n C 98 1 dX8_add_98 rfl rfl ?_
      refine j_get C 99 (ci := 8) hL rfl 0 (wm_o0 bd c (upR (upR (upR (upR (upR Z 1 (upd (Z 1) (n) (nI (k)))) 2 (upd (Z 2) (n) (v))) 3 (upd (Z 3) (n) (nI (a)))) 4 (upd (Z 4) (n) (nI (b)))) 5 (upd (Z 5) (n) (-1))) L) 7 (by decide) f25 rfl (v := .ref (bd 6)) rfl dX8_add_99 ?_
      refine j_aload_n C 102 1 dX8_add_102 rfl rfl ?_
      refine j_get C 103 (ci := 8) hL rfl 0 (wm_o0 bd c (upR (upR (upR (upR (upR Z 1 (upd (Z 1) (n) (nI (k)))) 2 (upd (Z 2) (n) (v))) 3 (upd (Z 3) (n) (nI (a)))) 4 (upd (Z 4) (n) (nI (b)))) 5 (upd (Z 5) (n) (-1))) L) 1 (by decide) f76 rfl (v := .int (Z 41 0)) rfl dX8_add_103 ?_
      refine j_eqi hz ?_
      refine j_iload_n C 106 2 dX8_add_106 rfl rfl ?_
      refine j_bipush C 107 (v := nI 6) dX8_add_107 rfl ?_
      refine j_icmp_ne_n C 109 119 (by omega) (by omega) dX8_add_109 (by decide) (fun h109 => ?_) (fun h109 => ?_)
      · refine j_iload C 119 0 dX8_add_119 rfl ?_
        refine j_iast C 121 6 0 (f := Z 6) (wm_a6 bd c (upR (upR (upR (upR (upR Z 1 (upd (Z 1) (n) (nI (k)))) 2 (upd (Z 2) (n) (v))) 3 (upd (Z 3) (n) (nI (a)))) 4 (upd (Z 4) (n) (nI (b)))) 5 (upd (Z 5) (n) (-1))) L) rfl (by omega) (by decide) (wm_s6 bd c (upR (upR (upR (upR (upR Z 1 (upd (Z 1) (n) (nI (k)))) 2 (upd (Z 2) (n) (v))) 3 (upd (Z 3) (n) (nI (a)))) 4 (upd (Z 4) (n) (nI (b)))) 5 (upd (Z 5) (n) (-1))) L (upd (Z 6) (n) (nI (τ 6 a)))) dX8_add_121 ?_
        refine j_iload_n C 122 4 dX8_add_122 rfl rfl ?_
        refine j_if_lt_n C 123 136 (by omega) dX8_add_123 (by decide) (fun h => absurd h (by omega)) (fun _ => ?_)
        refine j_aload_n C 126 1 dX8_add_126 rfl rfl ?_
        refine j_get C 127 (ci := 8) hL rfl 0 (wm_o0 bd c (upR (upR (upR (upR (upR (upR Z 1 (upd (Z 1) (n) (nI (k)))) 2 (upd (Z 2) (n) (v))) 3 (upd (Z 3) (n) (nI (a)))) 4 (upd (Z 4) (n) (nI (b)))) 5 (upd (Z 5) (n) (-1))) 6 (upd (Z 6) (n) (nI (τ 6 a)))) L) 6 (by decide) f22 rfl (v := .ref (bd 5)) rfl dX8_add_127 ?_
        refine j_iload_n C 130 4 dX8_add_130 rfl rfl ?_
        refine j_aload_n C 131 1 dX8_add_131 rfl rfl ?_
        refine j_get C 132 (ci := 8) hL rfl 0 (wm_o0 bd c (upR (upR (upR (upR (upR (upR Z 1 (upd (Z 1) (n) (nI (k)))) 2 (upd (Z 2) (n) (v))) 3 (upd (Z 3) (n) (nI (a)))) 4 (upd (Z 4) (n) (nI (b)))) 5 (upd (Z 5) (n) (-1))) 6 (upd (Z 6) (n) (nI (τ 6 a)))) L) 1 (by decide) f76 rfl (v := .int (Z 41 0)) rfl dX8_add_132 ?_
        refine j_eqi hz ?_
        refine j_iast C 135 5 0 (f := upd (Z 5) (n) (-1)) (wm_a5 bd c (upR (upR (upR (upR (upR (upR Z 1 (upd (Z 1) (n) (nI (k)))) 2 (upd (Z 2) (n) (v))) 3 (upd (Z 3) (n) (nI (a)))) 4 (upd (Z 4) (n) (nI (b)))) 5 (upd (Z 5) (n) (-1))) 6 (upd (Z 6) (n) (nI (τ 6 a)))) L) rfl (by omega) (by decide) (wm_s5 bd c (upR (upR (upR (upR (upR (upR Z 1 (upd (Z 1) (n) (nI (k)))) 2 (upd (Z 2) (n) (v))) 3 (upd (Z 3) (n) (nI (a)))) 4 (upd (Z 4) (n) (nI (b)))) 5 (upd (Z 5) (n) (-1))) 6 (upd (Z 6) (n) (nI (τ 6 a)))) L (upd (upd (Z 5) (n) (-1)) (a) (nI (n)))) dX8_add_135 ?_
        refine j_iload C 136 5 dX8_add_136 rfl ?_
        refine j_if_lt_n C 138 152 (by omega) dX8_add_138 (by decide) (fun h => absurd h (by omega)) (fun _ => ?_)
        refine j_aload_n C 141 1 dX8_add_141 rfl rfl ?_
        refine j_get C 142 (ci := 8) hL rfl 0 (wm_o0 bd c (upR (upR (upR (upR (upR (upR (upR Z 1 (upd (Z 1) (n) (nI (k)))) 2 (upd (Z 2) (n) (v))) 3 (upd (Z 3) (n) (nI (a)))) 4 (upd (Z 4) (n) (nI (b)))) 5 (upd (Z 5) (n) (-1))) 6 (upd (Z 6) (n) (nI (τ 6 a)))) 5 (upd (upd (Z 5) (n) (-1)) (a) (nI (n)))) L) 6 (by decide) f22 rfl (v := .ref (bd 5)) rfl dX8_add_142 ?_
        refine j_iload C 145 5 dX8_add_145 rfl ?_
        refine j_aload_n C 147 1 dX8_add_147 rfl rfl ?_
        refine j_get C 148 (ci := 8) hL rfl 0 (wm_o0 bd c (upR (upR (upR (upR (upR (upR (upR Z 1 (upd (Z 1) (n) (nI (k)))) 2 (upd (Z 2) (n) (v))) 3 (upd (Z 3) (n) (nI (a)))) 4 (upd (Z 4) (n) (nI (b)))) 5 (upd (Z 5) (n) (-1))) 6 (upd (Z 6) (n) (nI (τ 6 a)))) 5 (upd (upd (Z 5) (n) (-1)) (a) (nI (n)))) L) 1 (by decide) f76 rfl (v := .int (Z 41 0)) rfl dX8_add_148 ?_
        refine j_eqi hz ?_
        refine j_iast C 151 5 0 (f := upd (upd (Z 5) (n) (-1)) (a) (nI (n))) (wm_a5 bd c (upR (upR (upR (upR (upR (upR (upR Z 1 (upd (Z 1) (n) (nI (k)))) 2 (upd (Z 2) (n) (v))) 3 (upd (Z 3) (n) (nI (a)))) 4 (upd (Z 4) (n) (nI (b)))) 5 (upd (Z 5) (n) (-1))) 6 (upd (Z 6) (n) (nI (τ 6 a)))) 5 (upd (upd (Z 5) (n) (-1)) (a) (nI (n)))) L) rfl (by omega) (by decide) (wm_s5 bd c (upR (upR (upR (upR (upR (upR (upR Z 1 (upd (Z 1) (n) (nI (k)))) 2 (upd (Z 2) (n) (v))) 3 (upd (Z 3) (n) (nI (a)))) 4 (upd (Z 4) (n) (nI (b)))) 5 (upd (Z 5) (n) (-1))) 6 (upd (Z 6) (n) (nI (τ 6 a)))) 5 (upd (upd (Z 5) (n) (-1)) (a) (nI (n)))) L (upd (upd (upd (Z 5) (n) (-1)) (a) (nI (n))) (b) (nI (n)))) dX8_add_151 ?_
        refine j_aload_n C 152 1 dX8_add_152 rfl rfl ?_
        refine j_dup C 153 dX8_add_153 rfl ?_
        refine j_get C 154 (ci := 8) hL rfl 0 (wm_o0 bd c (upR (upR (upR (upR (upR (upR (upR (upR Z 1 (upd (Z 1) (n) (nI (k)))) 2 (upd (Z 2) (n) (v))) 3 (upd (Z 3) (n) (nI (a)))) 4 (upd (Z 4) (n) (nI (b)))) 5 (upd (Z 5) (n) (-1))) 6 (upd (Z 6) (n) (nI (τ 6 a)))) 5 (upd (upd (Z 5) (n) (-1)) (a) (nI (n)))) 5 (upd (upd (upd (Z 5) (n) (-1)) (a) (nI (n))) (b) (nI (n)))) L) 1 (by decide) f76 rfl (v := .int (Z 41 0)) rfl dX8_add_154 ?_
        refine j_eqi hz ?_
        refine j_iconst C 157 (v := nI 1) dX8_add_157 rfl ?_
        refine j_iadd_e C 158 dX8_add_158 (nI_add _ _) ?_
        refine j_put C 159 (ci := 8) hL tyX8_ok nmX8 rfl 0 (wm_o0 bd c (upR (upR (upR (upR (upR (upR (upR (upR Z 1 (upd (Z 1) (n) (nI (k)))) 2 (upd (Z 2) (n) (v))) 3 (upd (Z 3) (n) (nI (a)))) 4 (upd (Z 4) (n) (nI (b)))) 5 (upd (Z 5) (n) (-1))) 6 (upd (Z 6) (n) (nI (τ 6 a)))) 5 (upd (upd (Z 5) (n) (-1)) (a) (nI (n)))) 5 (upd (upd (upd (Z 5) (n) (-1)) (a) (nI (n))) (b) (nI (n)))) L) 1 (by decide) f76 rfl rfl (tyX8_ok 1 (by decide)) rfl rfl (Nat.le_of_ble_eq_true rfl) (wm_p41 bd c (upR (upR (upR (upR (upR (upR (upR (upR Z 1 (upd (Z 1) (n) (nI (k)))) 2 (upd (Z 2) (n) (v))) 3 (upd (Z 3) (n) (nI (a)))) 4 (upd (Z 4) (n) (nI (b)))) 5 (upd (Z 5) (n) (-1))) 6 (upd (Z 6) (n) (nI (τ 6 a)))) 5 (upd (upd (Z 5) (n) (-1)) (a) (nI (n)))) 5 (upd (upd (upd (Z 5) (n) (-1)) (a) (nI (n))) (b) (nI (n)))) L (nI (n + 1))) dX8_add_159 ?_
        refine j_aload_n C 162 1 dX8_add_162 rfl rfl ?_
        refine j_get C 163 (ci := 8) hL rfl 0 (wm_o0 bd c (upR (upR (upR (upR (upR (upR (upR (upR (upR Z 1 (upd (Z 1) (n) (nI (k)))) 2 (upd (Z 2) (n) (v))) 3 (upd (Z 3) (n) (nI (a)))) 4 (upd (Z 4) (n) (nI (b)))) 5 (upd (Z 5) (n) (-1))) 6 (upd (Z 6) (n) (nI (τ 6 a)))) 5 (upd (upd (Z 5) (n) (-1)) (a) (nI (n)))) 5 (upd (upd (upd (Z 5) (n) (-1)) (a) (nI (n))) (b) (nI (n)))) 41 (fun _ => nI (n + 1))) L) 1 (by decide) f76 rfl (v := .int (nI (n + 1))) rfl dX8_add_163 ?_
        refine j_iconst C 166 (v := nI 1) dX8_add_166 rfl ?_
        refine j_isub_e C 167 dX8_add_167 (pk_sub (by omega)) ?_
        refine j_eqi (show nI (n + 1 - 1) = nI n by rw [Nat.add_sub_cancel]) ?_
        exact j_ireti C hr E (Nat.le_refl _) (Nat.le_refl _) rfl (upR (upR (upR (upR (upR (upR (upR (upR (upR Z 1 (upd (Z 1) (n) (nI (k)))) 2 (upd (Z 2) (n) (v))) 3 (upd (Z 3) (n) (nI (a)))) 4 (upd (Z 4) (n) (nI (b)))) 5 (upd (Z 5) (n) (-1))) 6 (upd (Z 6) (n) (nI (τ 6 a)))) 5 (upd (upd (Z 5) (n) (-1)) (a) (nI (n)))) 5 (upd (upd (upd (Z 5) (n) (-1)) (a) (nI (n))) (b) (nI (n)))) 41 (fun _ => nI (n + 1))) ⟨rfl, g_E_new hE hNC hv rfl rfl rfl rfl rfl rfl (by show upd (Z 6) n _ = upd (Z 6) n (nI (max (τ 6 a) (τ 6 b) + (if k = 6 then 1 else 0))); rw [if_neg h109, Nat.add_zero, Nat.max_eq_left h81]) (e_w2 hac hbc), rfl, (g_fr_up (g_fr_up (g_fr_up (g_fr_up (g_fr_up (g_fr_up (g_fr_up (g_fr_up (g_fr_up g_fr_rfl (by decide) _) (by decide) _) (by decide) _) (by decide) _) (by decide) _) (by decide) _) (by decide) _) (by decide) _) (by decide) _)⟩ rfl dX8_add_168
      · refine j_iload C 112 0 dX8_add_112 rfl ?_
        refine j_iconst C 114 (v := nI 1) dX8_add_114 rfl ?_
        refine j_iadd_e C 115 dX8_add_115 (nI_add _ _) ?_
        refine j_goto C 116 121 dX8_add_116 (by decide) ?_
        refine j_iast C 121 6 0 (f := Z 6) (wm_a6 bd c (upR (upR (upR (upR (upR Z 1 (upd (Z 1) (n) (nI (k)))) 2 (upd (Z 2) (n) (v))) 3 (upd (Z 3) (n) (nI (a)))) 4 (upd (Z 4) (n) (nI (b)))) 5 (upd (Z 5) (n) (-1))) L) rfl (by omega) (by decide) (wm_s6 bd c (upR (upR (upR (upR (upR Z 1 (upd (Z 1) (n) (nI (k)))) 2 (upd (Z 2) (n) (v))) 3 (upd (Z 3) (n) (nI (a)))) 4 (upd (Z 4) (n) (nI (b)))) 5 (upd (Z 5) (n) (-1))) L (upd (Z 6) (n) (nI (τ 6 a + 1)))) dX8_add_121 ?_
        refine j_iload_n C 122 4 dX8_add_122 rfl rfl ?_
        refine j_if_lt_n C 123 136 (by omega) dX8_add_123 (by decide) (fun h => absurd h (by omega)) (fun _ => ?_)
        refine j_aload_n C 126 1 dX8_add_126 rfl rfl ?_
        refine j_get C 127 (ci := 8) hL rfl 0 (wm_o0 bd c (upR (upR (upR (upR (upR (upR Z 1 (upd (Z 1) (n) (nI (k)))) 2 (upd (Z 2) (n) (v))) 3 (upd (Z 3) (n) (nI (a)))) 4 (upd (Z 4) (n) (nI (b)))) 5 (upd (Z 5) (n) (-1))) 6 (upd (Z 6) (n) (nI (τ 6 a + 1)))) L) 6 (by decide) f22 rfl (v := .ref (bd 5)) rfl dX8_add_127 ?_
        refine j_iload_n C 130 4 dX8_add_130 rfl rfl ?_
        refine j_aload_n C 131 1 dX8_add_131 rfl rfl ?_
        refine j_get C 132 (ci := 8) hL rfl 0 (wm_o0 bd c (upR (upR (upR (upR (upR (upR Z 1 (upd (Z 1) (n) (nI (k)))) 2 (upd (Z 2) (n) (v))) 3 (upd (Z 3) (n) (nI (a)))) 4 (upd (Z 4) (n) (nI (b)))) 5 (upd (Z 5) (n) (-1))) 6 (upd (Z 6) (n) (nI (τ 6 a + 1)))) L) 1 (by decide) f76 rfl (v := .int (Z 41 0)) rfl dX8_add_132 ?_
        refine j_eqi hz ?_
        refine j_iast C 135 5 0 (f := upd (Z 5) (n) (-1)) (wm_a5 bd c (upR (upR (upR (upR (upR (upR Z 1 (upd (Z 1) (n) (nI (k)))) 2 (upd (Z 2) (n) (v))) 3 (upd (Z 3) (n) (nI (a)))) 4 (upd (Z 4) (n) (nI (b)))) 5 (upd (Z 5) (n) (-1))) 6 (upd (Z 6) (n) (nI (τ 6 a + 1)))) L) rfl (by omega) (by decide) (wm_s5 bd c (upR (upR (upR (upR (upR (upR Z 1 (upd (Z 1) (n) (nI (k)))) 2 (upd (Z 2) (n) (v))) 3 (upd (Z 3) (n) (nI (a)))) 4 (upd (Z 4) (n) (nI (b)))) 5 (upd (Z 5) (n) (-1))) 6 (upd (Z 6) (n) (nI (τ 6 a + 1)))) L (upd (upd (Z 5) (n) (-1)) (a) (nI (n)))) dX8_add_135 ?_
        refine j_iload C 136 5 dX8_add_136 rfl ?_
        refine j_if_lt_n C 138 152 (by omega) dX8_add_138 (by decide) (fun h => absurd h (by omega)) (fun _ => ?_)
        refine j_aload_n C 141 1 dX8_add_141 rfl rfl ?_
        refine j_get C 142 (ci := 8) hL rfl 0 (wm_o0 bd c (upR (upR (upR (upR (upR (upR (upR Z 1 (upd (Z 1) (n) (nI (k)))) 2 (upd (Z 2) (n) (v))) 3 (upd (Z 3) (n) (nI (a)))) 4 (upd (Z 4) (n) (nI (b)))) 5 (upd (Z 5) (n) (-1))) 6 (upd (Z 6) (n) (nI (τ 6 a + 1)))) 5 (upd (upd (Z 5) (n) (-1)) (a) (nI (n)))) L) 6 (by decide) f22 rfl (v := .ref (bd 5)) rfl dX8_add_142 ?_
        refine j_iload C 145 5 dX8_add_145 rfl ?_
        refine j_aload_n C 147 1 dX8_add_147 rfl rfl ?_
        refine j_get C 148 (ci := 8) hL rfl 0 (wm_o0 bd c (upR (upR (upR (upR (upR (upR (upR Z 1 (upd (Z 1) (n) (nI (k)))) 2 (upd (Z 2) (n) (v))) 3 (upd (Z 3) (n) (nI (a)))) 4 (upd (Z 4) (n) (nI (b)))) 5 (upd (Z 5) (n) (-1))) 6 (upd (Z 6) (n) (nI (τ 6 a + 1)))) 5 (upd (upd (Z 5) (n) (-1)) (a) (nI (n)))) L) 1 (by decide) f76 rfl (v := .int (Z 41 0)) rfl dX8_add_148 ?_
        refine j_eqi hz ?_
        refine j_iast C 151 5 0 (f := upd (upd (Z 5) (n) (-1)) (a) (nI (n))) (wm_a5 bd c (upR (upR (upR (upR (upR (upR (upR Z 1 (upd (Z 1) (n) (nI (k)))) 2 (upd (Z 2) (n) (v))) 3 (upd (Z 3) (n) (nI (a)))) 4 (upd (Z 4) (n) (nI (b)))) 5 (upd (Z 5) (n) (-1))) 6 (upd (Z 6) (n) (nI (τ 6 a + 1)))) 5 (upd (upd (Z 5) (n) (-1)) (a) (nI (n)))) L) rfl (by omega) (by decide) (wm_s5 bd c (upR (upR (upR (upR (upR (upR (upR Z 1 (upd (Z 1) (n) (nI (k)))) 2 (upd (Z 2) (n) (v))) 3 (upd (Z 3) (n) (nI (a)))) 4 (upd (Z 4) (n) (nI (b)))) 5 (upd (Z 5) (n) (-1))) 6 (upd (Z 6) (n) (nI (τ 6 a + 1)))) 5 (upd (upd (Z 5) (n) (-1)) (a) (nI (n)))) L (upd (upd (upd (Z 5) (n) (-1)) (a) (nI (n))) (b) (nI (n)))) dX8_add_151 ?_
        refine j_aload_n C 152 1 dX8_add_152 rfl rfl ?_
        refine j_dup C 153 dX8_add_153 rfl ?_
        refine j_get C 154 (ci := 8) hL rfl 0 (wm_o0 bd c (upR (upR (upR (upR (upR (upR (upR (upR Z 1 (upd (Z 1) (n) (nI (k)))) 2 (upd (Z 2) (n) (v))) 3 (upd (Z 3) (n) (nI (a)))) 4 (upd (Z 4) (n) (nI (b)))) 5 (upd (Z 5) (n) (-1))) 6 (upd (Z 6) (n) (nI (τ 6 a + 1)))) 5 (upd (upd (Z 5) (n) (-1)) (a) (nI (n)))) 5 (upd (upd (upd (Z 5) (n) (-1)) (a) (nI (n))) (b) (nI (n)))) L) 1 (by decide) f76 rfl (v := .int (Z 41 0)) rfl dX8_add_154 ?_
        refine j_eqi hz ?_
        refine j_iconst C 157 (v := nI 1) dX8_add_157 rfl ?_
        refine j_iadd_e C 158 dX8_add_158 (nI_add _ _) ?_
        refine j_put C 159 (ci := 8) hL tyX8_ok nmX8 rfl 0 (wm_o0 bd c (upR (upR (upR (upR (upR (upR (upR (upR Z 1 (upd (Z 1) (n) (nI (k)))) 2 (upd (Z 2) (n) (v))) 3 (upd (Z 3) (n) (nI (a)))) 4 (upd (Z 4) (n) (nI (b)))) 5 (upd (Z 5) (n) (-1))) 6 (upd (Z 6) (n) (nI (τ 6 a + 1)))) 5 (upd (upd (Z 5) (n) (-1)) (a) (nI (n)))) 5 (upd (upd (upd (Z 5) (n) (-1)) (a) (nI (n))) (b) (nI (n)))) L) 1 (by decide) f76 rfl rfl (tyX8_ok 1 (by decide)) rfl rfl (Nat.le_of_ble_eq_true rfl) (wm_p41 bd c (upR (upR (upR (upR (upR (upR (upR (upR Z 1 (upd (Z 1) (n) (nI (k)))) 2 (upd (Z 2) (n) (v))) 3 (upd (Z 3) (n) (nI (a)))) 4 (upd (Z 4) (n) (nI (b)))) 5 (upd (Z 5) (n) (-1))) 6 (upd (Z 6) (n) (nI (τ 6 a + 1)))) 5 (upd (upd (Z 5) (n) (-1)) (a) (nI (n)))) 5 (upd (upd (upd (Z 5) (n) (-1)) (a) (nI (n))) (b) (nI (n)))) L (nI (n + 1))) dX8_add_159 ?_
        refine j_aload_n C 162 1 dX8_add_162 rfl rfl ?_
        refine j_get C 163 (ci := 8) hL rfl 0 (wm_o0 bd c (upR (upR (upR (upR (upR (upR (upR (upR (upR Z 1 (upd (Z 1) (n) (nI (k)))) 2 (upd (Z 2) (n) (v))) 3 (upd (Z 3) (n) (nI (a)))) 4 (upd (Z 4) (n) (nI (b)))) 5 (upd (Z 5) (n) (-1))) 6 (upd (Z 6) (n) (nI (τ 6 a + 1)))) 5 (upd (upd (Z 5) (n) (-1)) (a) (nI (n)))) 5 (upd (upd (upd (Z 5) (n) (-1)) (a) (nI (n))) (b) (nI (n)))) 41 (fun _ => nI (n + 1))) L) 1 (by decide) f76 rfl (v := .int (nI (n + 1))) rfl dX8_add_163 ?_
        refine j_iconst C 166 (v := nI 1) dX8_add_166 rfl ?_
        refine j_isub_e C 167 dX8_add_167 (pk_sub (by omega)) ?_
        refine j_eqi (show nI (n + 1 - 1) = nI n by rw [Nat.add_sub_cancel]) ?_
        exact j_ireti C hr E (Nat.le_refl _) (Nat.le_refl _) rfl (upR (upR (upR (upR (upR (upR (upR (upR (upR Z 1 (upd (Z 1) (n) (nI (k)))) 2 (upd (Z 2) (n) (v))) 3 (upd (Z 3) (n) (nI (a)))) 4 (upd (Z 4) (n) (nI (b)))) 5 (upd (Z 5) (n) (-1))) 6 (upd (Z 6) (n) (nI (τ 6 a + 1)))) 5 (upd (upd (Z 5) (n) (-1)) (a) (nI (n)))) 5 (upd (upd (upd (Z 5) (n) (-1)) (a) (nI (n))) (b) (nI (n)))) 41 (fun _ => nI (n + 1))) ⟨rfl, g_E_new hE hNC hv rfl rfl rfl rfl rfl rfl (by show upd (Z 6) n _ = upd (Z 6) n (nI (max (τ 6 a) (τ 6 b) + (if k = 6 then 1 else 0))); rw [if_pos h109, Nat.max_eq_left h81]) (e_w2 hac hbc), rfl, (g_fr_up (g_fr_up (g_fr_up (g_fr_up (g_fr_up (g_fr_up (g_fr_up (g_fr_up (g_fr_up g_fr_rfl (by decide) _) (by decide) _) (by decide) _) (by decide) _) (by decide) _) (by decide) _) (by decide) _) (by decide) _) (by decide) _)⟩ rfl dX8_add_168
    · refine j_aload_n C 84 1 dX8_add_84 rfl rfl ?_
      refine j_get C 85 (ci := 8) hL rfl 0 (wm_o0 bd c (upR (upR (upR (upR (upR Z 1 (upd (Z 1) (n) (nI (k)))) 2 (upd (Z 2) (n) (v))) 3 (upd (Z 3) (n) (nI (a)))) 4 (upd (Z 4) (n) (nI (b)))) 5 (upd (Z 5) (n) (-1))) L) 7 (by decide) f25 rfl (v := .ref (bd 6)) rfl dX8_add_85 ?_
      refine j_iload C 88 5 dX8_add_88 rfl ?_
      refine j_iald C 90 6 0 (f := Z 6) (wm_a6 bd c (upR (upR (upR (upR (upR Z 1 (upd (Z 1) (n) (nI (k)))) 2 (upd (Z 2) (n) (v))) 3 (upd (Z 3) (n) (nI (a)))) 4 (upd (Z 4) (n) (nI (b)))) 5 (upd (Z 5) (n) (-1))) L) rfl (by omega) (by decide) dX8_add_90 ?_
      refine j_eqi hb3.1 ?_
      refine j_goto C 91 96 dX8_add_91 (by decide) ?_
      refine j_istore C 96 (lv' := [(5, .int (nI (τ 6 b))), (0, .ref (bd 0)), (1, .int (nI (k))), (2, .int (v)), (3, .int (nI (a))), (4, .int (nI (b)))]) dX8_add_96 (by rw [hn]; decide) rfl ?_
      refine j_aload_n C 98 1 dX8_add_98 rfl rfl ?_
      refine j_get C 99 (ci := 8) hL rfl 0 (wm_o0 bd c (upR (upR (upR (upR (upR Z 1 (upd (Z 1) (n) (nI (k)))) 2 (upd (Z 2) (n) (v))) 3 (upd (Z 3) (n) (nI (a)))) 4 (upd (Z 4) (n) (nI (b)))) 5 (upd (Z 5) (n) (-1))) L) 7 (by decide) f25 rfl (v := .ref (bd 6)) rfl dX8_add_99 ?_
      refine j_aload_n C 102 1 dX8_add_102 rfl rfl ?_
      refine j_get C 103 (ci := 8) hL rfl 0 (wm_o0 bd c (upR (upR (upR (upR (upR Z 1 (upd (Z 1) (n) (nI (k)))) 2 (upd (Z 2) (n) (v))) 3 (upd (Z 3) (n) (nI (a)))) 4 (upd (Z 4) (n) (nI (b)))) 5 (upd (Z 5) (n) (-1))) L) 1 (by decide) f76 rfl (v := .int (Z 41 0)) rfl dX8_add_103 ?_
      refine j_eqi hz ?_
      refine j_iload_n C 106 2 dX8_add_106 rfl rfl ?_
      refine j_bipush C 107 (v := nI 6) dX8_add_107 rfl ?_
      refine j_icmp_ne_n C 109 119 (by omega) (by omega) dX8_add_109 (by decide) (fun h109 => ?_) (fun h109 => ?_)
      · refine j_iload C 119 0 dX8_add_119 rfl ?_
        refine j_iast C 121 6 0 (f := Z 6) (wm_a6 bd c (upR (upR (upR (upR (upR Z 1 (upd (Z 1) (n) (nI (k)))) 2 (upd (Z 2) (n) (v))) 3 (upd (Z 3) (n) (nI (a)))) 4 (upd (Z 4) (n) (nI (b)))) 5 (upd (Z 5) (n) (-1))) L) rfl (by omega) (by decide) (wm_s6 bd c (upR (upR (upR (upR (upR Z 1 (upd (Z 1) (n) (nI (k)))) 2 (upd (Z 2) (n) (v))) 3 (upd (Z 3) (n) (nI (a)))) 4 (upd (Z 4) (n) (nI (b)))) 5 (upd (Z 5) (n) (-1))) L (upd (Z 6) (n) (nI (τ 6 b)))) dX8_add_121 ?_
        refine j_iload_n C 122 4 dX8_add_122 rfl rfl ?_
        refine j_if_lt_n C 123 136 (by omega) dX8_add_123 (by decide) (fun h => absurd h (by omega)) (fun _ => ?_)
        refine j_aload_n C 126 1 dX8_add_126 rfl rfl ?_
        refine j_get C 127 (ci := 8) hL rfl 0 (wm_o0 bd c (upR (upR (upR (upR (upR (upR Z 1 (upd (Z 1) (n) (nI (k)))) 2 (upd (Z 2) (n) (v))) 3 (upd (Z 3) (n) (nI (a)))) 4 (upd (Z 4) (n) (nI (b)))) 5 (upd (Z 5) (n) (-1))) 6 (upd (Z 6) (n) (nI (τ 6 b)))) L) 6 (by decide) f22 rfl (v := .ref (bd 5)) rfl dX8_add_127 ?_
        refine j_iload_n C 130 4 dX8_add_130 rfl rfl ?_
        refine j_aload_n C 131 1 dX8_add_131 rfl rfl ?_
        refine j_get C 132 (ci := 8) hL rfl 0 (wm_o0 bd c (upR (upR (upR (upR (upR (upR Z 1 (upd (Z 1) (n) (nI (k)))) 2 (upd (Z 2) (n) (v))) 3 (upd (Z 3) (n) (nI (a)))) 4 (upd (Z 4) (n) (nI (b)))) 5 (upd (Z 5) (n) (-1))) 6 (upd (Z 6) (n) (nI (τ 6 b)))) L) 1 (by decide) f76 rfl (v := .int (Z 41 0)) rfl dX8_add_132 ?_
        refine j_eqi hz ?_
        refine j_iast C 135 5 0 (f := upd (Z 5) (n) (-1)) (wm_a5 bd c (upR (upR (upR (upR (upR (upR Z 1 (upd (Z 1) (n) (nI (k)))) 2 (upd (Z 2) (n) (v))) 3 (upd (Z 3) (n) (nI (a)))) 4 (upd (Z 4) (n) (nI (b)))) 5 (upd (Z 5) (n) (-1))) 6 (upd (Z 6) (n) (nI (τ 6 b)))) L) rfl (by omega) (by decide) (wm_s5 bd c (upR (upR (upR (upR (upR (upR Z 1 (upd (Z 1) (n) (nI (k)))) 2 (upd (Z 2) (n) (v))) 3 (upd (Z 3) (n) (nI (a)))) 4 (upd (Z 4) (n) (nI (b)))) 5 (upd (Z 5) (n) (-1))) 6 (upd (Z 6) (n) (nI (τ 6 b)))) L (upd (upd (Z 5) (n) (-1)) (a) (nI (n)))) dX8_add_135 ?_
        refine j_iload C 136 5 dX8_add_136 rfl ?_
        refine j_if_lt_n C 138 152 (by omega) dX8_add_138 (by decide) (fun h => absurd h (by omega)) (fun _ => ?_)
        refine j_aload_n C 141 1 dX8_add_141 rfl rfl ?_
        refine j_get C 142 (ci := 8) hL rfl 0 (wm_o0 bd c (upR (upR (upR (upR (upR (upR (upR Z 1 (upd (Z 1) (n) (nI (k)))) 2 (upd (Z 2) (n) (v))) 3 (upd (Z 3) (n) (nI (a)))) 4 (upd (Z 4) (n) (nI (b)))) 5 (upd (Z 5) (n) (-1))) 6 (upd (Z 6) (n) (nI (τ 6 b)))) 5 (upd (upd (Z 5) (n) (-1)) (a) (nI (n)))) L) 6 (by decide) f22 rfl (v := .ref (bd 5)) rfl dX8_add_142 ?_
        refine j_iload C 145 5 dX8_add_145 rfl ?_
        refine j_aload_n C 147 1 dX8_add_147 rfl rfl ?_
        refine j_get C 148 (ci := 8) hL rfl 0 (wm_o0 bd c (upR (upR (upR (upR (upR (upR (upR Z 1 (upd (Z 1) (n) (nI (k)))) 2 (upd (Z 2) (n) (v))) 3 (upd (Z 3) (n) (nI (a)))) 4 (upd (Z 4) (n) (nI (b)))) 5 (upd (Z 5) (n) (-1))) 6 (upd (Z 6) (n) (nI (τ 6 b)))) 5 (upd (upd (Z 5) (n) (-1)) (a) (nI (n)))) L) 1 (by decide) f76 rfl (v := .int (Z 41 0)) rfl dX8_add_148 ?_
        refine j_eqi hz ?_
        refine j_iast C 151 5 0 (f := upd (upd (Z 5) (n) (-1)) (a) (nI (n))) (wm_a5 bd c (upR (upR (upR (upR (upR (upR (upR Z 1 (upd (Z 1) (n) (nI (k)))) 2 (upd (Z 2) (n) (v))) 3 (upd (Z 3) (n) (nI (a)))) 4 (upd (Z 4) (n) (nI (b)))) 5 (upd (Z 5) (n) (-1))) 6 (upd (Z 6) (n) (nI (τ 6 b)))) 5 (upd (upd (Z 5) (n) (-1)) (a) (nI (n)))) L) rfl (by omega) (by decide) (wm_s5 bd c (upR (upR (upR (upR (upR (upR (upR Z 1 (upd (Z 1) (n) (nI (k)))) 2 (upd (Z 2) (n) (v))) 3 (upd (Z 3) (n) (nI (a)))) 4 (upd (Z 4) (n) (nI (b)))) 5 (upd (Z 5) (n) (-1))) 6 (upd (Z 6) (n) (nI (τ 6 b)))) 5 (upd (upd (Z 5) (n) (-1)) (a) (nI (n)))) L (upd (upd (upd (Z 5) (n) (-1)) (a) (nI (n))) (b) (nI (n)))) dX8_add_151 ?_
        refine j_aload_n C 152 1 dX8_add_152 rfl rfl ?_
        refine j_dup C 153 dX8_add_153 rfl ?_
        refine j_get C 154 (ci := 8) hL rfl 0 (wm_o0 bd c (upR (upR (upR (upR (upR (upR (upR (upR Z 1 (upd (Z 1) (n) (nI (k)))) 2 (upd (Z 2) (n) (v))) 3 (upd (Z 3) (n) (nI (a)))) 4 (upd (Z 4) (n) (nI (b)))) 5 (upd (Z 5) (n) (-1))) 6 (upd (Z 6) (n) (nI (τ 6 b)))) 5 (upd (upd (Z 5) (n) (-1)) (a) (nI (n)))) 5 (upd (upd (upd (Z 5) (n) (-1)) (a) (nI (n))) (b) (nI (n)))) L) 1 (by decide) f76 rfl (v := .int (Z 41 0)) rfl dX8_add_154 ?_
        refine j_eqi hz ?_
        refine j_iconst C 157 (v := nI 1) dX8_add_157 rfl ?_
        refine j_iadd_e C 158 dX8_add_158 (nI_add _ _) ?_
        refine j_put C 159 (ci := 8) hL tyX8_ok nmX8 rfl 0 (wm_o0 bd c (upR (upR (upR (upR (upR (upR (upR (upR Z 1 (upd (Z 1) (n) (nI (k)))) 2 (upd (Z 2) (n) (v))) 3 (upd (Z 3) (n) (nI (a)))) 4 (upd (Z 4) (n) (nI (b)))) 5 (upd (Z 5) (n) (-1))) 6 (upd (Z 6) (n) (nI (τ 6 b)))) 5 (upd (upd (Z 5) (n) (-1)) (a) (nI (n)))) 5 (upd (upd (upd (Z 5) (n) (-1)) (a) (nI (n))) (b) (nI (n)))) L) 1 (by decide) f76 rfl rfl (tyX8_ok 1 (by decide)) rfl rfl (Nat.le_of_ble_eq_true rfl) (wm_p41 bd c (upR (upR (upR (upR (upR (upR (upR (upR Z 1 (upd (Z 1) (n) (nI (k)))) 2 (upd (Z 2) (n) (v))) 3 (upd (Z 3) (n) (nI (a)))) 4 (upd (Z 4) (n) (nI (b)))) 5 (upd (Z 5) (n) (-1))) 6 (upd (Z 6) (n) (nI (τ 6 b)))) 5 (upd (upd (Z 5) (n) (-1)) (a) (nI (n)))) 5 (upd (upd (upd (Z 5) (n) (-1)) (a) (nI (n))) (b) (nI (n)))) L (nI (n + 1))) dX8_add_159 ?_
        refine j_aload_n C 162 1 dX8_add_162 rfl rfl ?_
        refine j_get C 163 (ci := 8) hL rfl 0 (wm_o0 bd c (upR (upR (upR (upR (upR (upR (upR (upR (upR Z 1 (upd (Z 1) (n) (nI (k)))) 2 (upd (Z 2) (n) (v))) 3 (upd (Z 3) (n) (nI (a)))) 4 (upd (Z 4) (n) (nI (b)))) 5 (upd (Z 5) (n) (-1))) 6 (upd (Z 6) (n) (nI (τ 6 b)))) 5 (upd (upd (Z 5) (n) (-1)) (a) (nI (n)))) 5 (upd (upd (upd (Z 5) (n) (-1)) (a) (nI (n))) (b) (nI (n)))) 41 (fun _ => nI (n + 1))) L) 1 (by decide) f76 rfl (v := .int (nI (n + 1))) rfl dX8_add_163 ?_
        refine j_iconst C 166 (v := nI 1) dX8_add_166 rfl ?_
        refine j_isub_e C 167 dX8_add_167 (pk_sub (by omega)) ?_
        refine j_eqi (show nI (n + 1 - 1) = nI n by rw [Nat.add_sub_cancel]) ?_
        exact j_ireti C hr E (Nat.le_refl _) (Nat.le_refl _) rfl (upR (upR (upR (upR (upR (upR (upR (upR (upR Z 1 (upd (Z 1) (n) (nI (k)))) 2 (upd (Z 2) (n) (v))) 3 (upd (Z 3) (n) (nI (a)))) 4 (upd (Z 4) (n) (nI (b)))) 5 (upd (Z 5) (n) (-1))) 6 (upd (Z 6) (n) (nI (τ 6 b)))) 5 (upd (upd (Z 5) (n) (-1)) (a) (nI (n)))) 5 (upd (upd (upd (Z 5) (n) (-1)) (a) (nI (n))) (b) (nI (n)))) 41 (fun _ => nI (n + 1))) ⟨rfl, g_E_new hE hNC hv rfl rfl rfl rfl rfl rfl (by show upd (Z 6) n _ = upd (Z 6) n (nI (max (τ 6 a) (τ 6 b) + (if k = 6 then 1 else 0))); rw [if_neg h109, Nat.add_zero, Nat.max_eq_right (Nat.le_of_lt h81)]) (e_w2 hac hbc), rfl, (g_fr_up (g_fr_up (g_fr_up (g_fr_up (g_fr_up (g_fr_up (g_fr_up (g_fr_up (g_fr_up g_fr_rfl (by decide) _) (by decide) _) (by decide) _) (by decide) _) (by decide) _) (by decide) _) (by decide) _) (by decide) _) (by decide) _)⟩ rfl dX8_add_168
      · refine j_iload C 112 0 dX8_add_112 rfl ?_
        refine j_iconst C 114 (v := nI 1) dX8_add_114 rfl ?_
        refine j_iadd_e C 115 dX8_add_115 (nI_add _ _) ?_
        refine j_goto C 116 121 dX8_add_116 (by decide) ?_
        refine j_iast C 121 6 0 (f := Z 6) (wm_a6 bd c (upR (upR (upR (upR (upR Z 1 (upd (Z 1) (n) (nI (k)))) 2 (upd (Z 2) (n) (v))) 3 (upd (Z 3) (n) (nI (a)))) 4 (upd (Z 4) (n) (nI (b)))) 5 (upd (Z 5) (n) (-1))) L) rfl (by omega) (by decide) (wm_s6 bd c (upR (upR (upR (upR (upR Z 1 (upd (Z 1) (n) (nI (k)))) 2 (upd (Z 2) (n) (v))) 3 (upd (Z 3) (n) (nI (a)))) 4 (upd (Z 4) (n) (nI (b)))) 5 (upd (Z 5) (n) (-1))) L (upd (Z 6) (n) (nI (τ 6 b + 1)))) dX8_add_121 ?_
        refine j_iload_n C 122 4 dX8_add_122 rfl rfl ?_
        refine j_if_lt_n C 123 136 (by omega) dX8_add_123 (by decide) (fun h => absurd h (by omega)) (fun _ => ?_)
        refine j_aload_n C 126 1 dX8_add_126 rfl rfl ?_
        refine j_get C 127 (ci := 8) hL rfl 0 (wm_o0 bd c (upR (upR (upR (upR (upR (upR Z 1 (upd (Z 1) (n) (nI (k)))) 2 (upd (Z 2) (n) (v))) 3 (upd (Z 3) (n) (nI (a)))) 4 (upd (Z 4) (n) (nI (b)))) 5 (upd (Z 5) (n) (-1))) 6 (upd (Z 6) (n) (nI (τ 6 b + 1)))) L) 6 (by decide) f22 rfl (v := .ref (bd 5)) rfl dX8_add_127 ?_
        refine j_iload_n C 130 4 dX8_add_130 rfl rfl ?_
        refine j_aload_n C 131 1 dX8_add_131 rfl rfl ?_
        refine j_get C 132 (ci := 8) hL rfl 0 (wm_o0 bd c (upR (upR (upR (upR (upR (upR Z 1 (upd (Z 1) (n) (nI (k)))) 2 (upd (Z 2) (n) (v))) 3 (upd (Z 3) (n) (nI (a)))) 4 (upd (Z 4) (n) (nI (b)))) 5 (upd (Z 5) (n) (-1))) 6 (upd (Z 6) (n) (nI (τ 6 b + 1)))) L) 1 (by decide) f76 rfl (v := .int (Z 41 0)) rfl dX8_add_132 ?_
        refine j_eqi hz ?_
        refine j_iast C 135 5 0 (f := upd (Z 5) (n) (-1)) (wm_a5 bd c (upR (upR (upR (upR (upR (upR Z 1 (upd (Z 1) (n) (nI (k)))) 2 (upd (Z 2) (n) (v))) 3 (upd (Z 3) (n) (nI (a)))) 4 (upd (Z 4) (n) (nI (b)))) 5 (upd (Z 5) (n) (-1))) 6 (upd (Z 6) (n) (nI (τ 6 b + 1)))) L) rfl (by omega) (by decide) (wm_s5 bd c (upR (upR (upR (upR (upR (upR Z 1 (upd (Z 1) (n) (nI (k)))) 2 (upd (Z 2) (n) (v))) 3 (upd (Z 3) (n) (nI (a)))) 4 (upd (Z 4) (n) (nI (b)))) 5 (upd (Z 5) (n) (-1))) 6 (upd (Z 6) (n) (nI (τ 6 b + 1)))) L (upd (upd (Z 5) (n) (-1)) (a) (nI (n)))) dX8_add_135 ?_
        refine j_iload C 136 5 dX8_add_136 rfl ?_
        refine j_if_lt_n C 138 152 (by omega) dX8_add_138 (by decide) (fun h => absurd h (by omega)) (fun _ => ?_)
        refine j_aload_n C 141 1 dX8_add_141 rfl rfl ?_
        refine j_get C 142 (ci := 8) hL rfl 0 (wm_o0 bd c (upR (upR (upR (upR (upR (upR (upR Z 1 (upd (Z 1) (n) (nI (k)))) 2 (upd (Z 2) (n) (v))) 3 (upd (Z 3) (n) (nI (a)))) 4 (upd (Z 4) (n) (nI (b)))) 5 (upd (Z 5) (n) (-1))) 6 (upd (Z 6) (n) (nI (τ 6 b + 1)))) 5 (upd (upd (Z 5) (n) (-1)) (a) (nI (n)))) L) 6 (by decide) f22 rfl (v := .ref (bd 5)) rfl dX8_add_142 ?_
        refine j_iload C 145 5 dX8_add_145 rfl ?_
        refine j_aload_n C 147 1 dX8_add_147 rfl rfl ?_
        refine j_get C 148 (ci := 8) hL rfl 0 (wm_o0 bd c (upR (upR (upR (upR (upR (upR (upR Z 1 (upd (Z 1) (n) (nI (k)))) 2 (upd (Z 2) (n) (v))) 3 (upd (Z 3) (n) (nI (a)))) 4 (upd (Z 4) (n) (nI (b)))) 5 (upd (Z 5) (n) (-1))) 6 (upd (Z 6) (n) (nI (τ 6 b + 1)))) 5 (upd (upd (Z 5) (n) (-1)) (a) (nI (n)))) L) 1 (by decide) f76 rfl (v := .int (Z 41 0)) rfl dX8_add_148 ?_
        refine j_eqi hz ?_
        refine j_iast C 151 5 0 (f := upd (upd (Z 5) (n) (-1)) (a) (nI (n))) (wm_a5 bd c (upR (upR (upR (upR (upR (upR (upR Z 1 (upd (Z 1) (n) (nI (k)))) 2 (upd (Z 2) (n) (v))) 3 (upd (Z 3) (n) (nI (a)))) 4 (upd (Z 4) (n) (nI (b)))) 5 (upd (Z 5) (n) (-1))) 6 (upd (Z 6) (n) (nI (τ 6 b + 1)))) 5 (upd (upd (Z 5) (n) (-1)) (a) (nI (n)))) L) rfl (by omega) (by decide) (wm_s5 bd c (upR (upR (upR (upR (upR (upR (upR Z 1 (upd (Z 1) (n) (nI (k)))) 2 (upd (Z 2) (n) (v))) 3 (upd (Z 3) (n) (nI (a)))) 4 (upd (Z 4) (n) (nI (b)))) 5 (upd (Z 5) (n) (-1))) 6 (upd (Z 6) (n) (nI (τ 6 b + 1)))) 5 (upd (upd (Z 5) (n) (-1)) (a) (nI (n)))) L (upd (upd (upd (Z 5) (n) (-1)) (a) (nI (n))) (b) (nI (n)))) dX8_add_151 ?_
        refine j_aload_n C 152 1 dX8_add_152 rfl rfl ?_
        refine j_dup C 153 dX8_add_153 rfl ?_
        refine j_get C 154 (ci := 8) hL rfl 0 (wm_o0 bd c (upR (upR (upR (upR (upR (upR (upR (upR Z 1 (upd (Z 1) (n) (nI (k)))) 2 (upd (Z 2) (n) (v))) 3 (upd (Z 3) (n) (nI (a)))) 4 (upd (Z 4) (n) (nI (b)))) 5 (upd (Z 5) (n) (-1))) 6 (upd (Z 6) (n) (nI (τ 6 b + 1)))) 5 (upd (upd (Z 5) (n) (-1)) (a) (nI (n)))) 5 (upd (upd (upd (Z 5) (n) (-1)) (a) (nI (n))) (b) (nI (n)))) L) 1 (by decide) f76 rfl (v := .int (Z 41 0)) rfl dX8_add_154 ?_
        refine j_eqi hz ?_
        refine j_iconst C 157 (v := nI 1) dX8_add_157 rfl ?_
        refine j_iadd_e C 158 dX8_add_158 (nI_add _ _) ?_
        refine j_put C 159 (ci := 8) hL tyX8_ok nmX8 rfl 0 (wm_o0 bd c (upR (upR (upR (upR (upR (upR (upR (upR Z 1 (upd (Z 1) (n) (nI (k)))) 2 (upd (Z 2) (n) (v))) 3 (upd (Z 3) (n) (nI (a)))) 4 (upd (Z 4) (n) (nI (b)))) 5 (upd (Z 5) (n) (-1))) 6 (upd (Z 6) (n) (nI (τ 6 b + 1)))) 5 (upd (upd (Z 5) (n) (-1)) (a) (nI (n)))) 5 (upd (upd (upd (Z 5) (n) (-1)) (a) (nI (n))) (b) (nI (n)))) L) 1 (by decide) f76 rfl rfl (tyX8_ok 1 (by decide)) rfl rfl (Nat.le_of_ble_eq_true rfl) (wm_p41 bd c (upR (upR (upR (upR (upR (upR (upR (upR Z 1 (upd (Z 1) (n) (nI (k)))) 2 (upd (Z 2) (n) (v))) 3 (upd (Z 3) (n) (nI (a)))) 4 (upd (Z 4) (n) (nI (b)))) 5 (upd (Z 5) (n) (-1))) 6 (upd (Z 6) (n) (nI (τ 6 b + 1)))) 5 (upd (upd (Z 5) (n) (-1)) (a) (nI (n)))) 5 (upd (upd (upd (Z 5) (n) (-1)) (a) (nI (n))) (b) (nI (n)))) L (nI (n + 1))) dX8_add_159 ?_
        refine j_aload_n C 162 1 dX8_add_162 rfl rfl ?_
        refine j_get C 163 (ci := 8) hL rfl 0 (wm_o0 bd c (upR (upR (upR (upR (upR (upR (upR (upR (upR Z 1 (upd (Z 1) (n) (nI (k)))) 2 (upd (Z 2) (n) (v))) 3 (upd (Z 3) (n) (nI (a)))) 4 (upd (Z 4) (n) (nI (b)))) 5 (upd (Z 5) (n) (-1))) 6 (upd (Z 6) (n) (nI (τ 6 b + 1)))) 5 (upd (upd (Z 5) (n) (-1)) (a) (nI (n)))) 5 (upd (upd (upd (Z 5) (n) (-1)) (a) (nI (n))) (b) (nI (n)))) 41 (fun _ => nI (n + 1))) L) 1 (by decide) f76 rfl (v := .int (nI (n + 1))) rfl dX8_add_163 ?_
        refine j_iconst C 166 (v := nI 1) dX8_add_166 rfl ?_
        refine j_isub_e C 167 dX8_add_167 (pk_sub (by omega)) ?_
        refine j_eqi (show nI (n + 1 - 1) = nI n by rw [Nat.add_sub_cancel]) ?_
        exact j_ireti C hr E (Nat.le_refl _) (Nat.le_refl _) rfl (upR (upR (upR (upR (upR (upR (upR (upR (upR Z 1 (upd (Z 1) (n) (nI (k)))) 2 (upd (Z 2) (n) (v))) 3 (upd (Z 3) (n) (nI (a)))) 4 (upd (Z 4) (n) (nI (b)))) 5 (upd (Z 5) (n) (-1))) 6 (upd (Z 6) (n) (nI (τ 6 b + 1)))) 5 (upd (upd (Z 5) (n) (-1)) (a) (nI (n)))) 5 (upd (upd (upd (Z 5) (n) (-1)) (a) (nI (n))) (b) (nI (n)))) 41 (fun _ => nI (n + 1))) ⟨rfl, g_E_new hE hNC hv rfl rfl rfl rfl rfl rfl (by show upd (Z 6) n _ = upd (Z 6) n (nI (max (τ 6 a) (τ 6 b) + (if k = 6 then 1 else 0))); rw [if_pos h109, Nat.max_eq_right (Nat.le_of_lt h81)]) (e_w2 hac hbc), rfl, (g_fr_up (g_fr_up (g_fr_up (g_fr_up (g_fr_up (g_fr_up (g_fr_up (g_fr_up (g_fr_up g_fr_rfl (by decide) _) (by decide) _) (by decide) _) (by decide) _) (by decide) _) (by decide) _) (by decide) _) (by decide) _) (by decide) _)⟩ rfl dX8_add_168
  · simp at hc2
set_option maxHeartbeats 4000000 in
set_option maxRecDepth 100000 in
theorem c_X8_leftmost (ll : Launch) (D : va_G) (bd : Nat → Nat) (c : Nat → ClassId) (Z : ZT) (L : LT) {n : Nat} {τ : Tb} (t : Nat) (hwf : g_WF n τ) (hE : g_EM n τ Z) (ht : t < n) : cI (S := Unit) ll yX8_leftmost vsX8_leftmost ({ frames := 0, cells := 0, slots := 0, locals := 0 } : Room) D (tysG c) [.ref (bd 0), .int (nI (t))] (wm bd c Z L) (fun _ => wm bd c Z L) (fun r _ => r = nI (g_lm τ t)) 0 0 := by
  refine cI_start (cc := cX8_leftmost) (maxL := 3) RX8 rfl (by decide +kernel) rfl (Nat.le_of_ble_eq_true rfl) ?_
  intro κ hlκ C hr _ E hR hn
  subst hlκ
  have hL : ∀ w ∈ u_ws RX8 TX8 28, w.before (ja κ) (js κ) = true := fun w h => C.t w (mX8_leftmost_wsX80 w h)
  have f16 : (Cond.fieldLink RX8 16 "GuardedGrammarModel" (TX8 4).2.1 (TX8 4).2.2.1).before (ja κ) (js κ) = true := C.t (.fieldLink RX8 16 "GuardedGrammarModel" "one" "[I") (mX8_leftmost_o _ (by decide +kernel))
  show J D κ 0 0 0 [(0, .ref (bd 0)), (1, .int (nI (t)))] [] (wm bd c Z L)
  have h48n := hwf.1
  have loop : ∀ m u, u ≤ m → u < n → g_lm τ t = g_lm τ u → ∀ lv, lv_pick lv [0, 1, 2] = [(2, .int (nI u)), (0, .ref (bd 0)), (1, .int (nI t))] → J D κ 0 0 2 lv [] (wm bd c Z L) := by
    intro m
    induction m using Nat.strongRecOn with
    | ind m ih =>
      intro u hm hu hlm lv hlv
      have hlm2 := g_lm_eq hwf hu
      refine j_lv [0, 1, 2] hlv ?_
      by_cases hk : g_kd τ u = 3 ∨ g_kd τ u = 4 ∨ g_kd τ u = 6
      · rw [if_pos hk] at hlm2
        have hl9 : g_lf τ u < u := by
          have hc := (hwf.2 u hu).2.2.2.1 (g_lf τ u)
          rcases hk with k | k | k
          · exact (hc (by rw [g_ch4 (Or.inl k)]; simp)).1
          · exact (hc (by rw [g_ch4 (Or.inr k)]; simp)).1
          · exact (hc (by rw [g_ch6 k]; simp)).1
        refine j_aload_n C 2 1 dX8_leftmost_2 rfl rfl ?_
        refine j_get C 3 (ci := 8) hL rfl 0 (wm_o0 bd c Z L) 4 (by decide) f16 rfl (v := .ref (bd 3)) rfl dX8_leftmost_3 ?_
        refine j_iload_n C 6 0 dX8_leftmost_6 rfl rfl ?_
        refine j_iald C 7 3 0 (f := Z 3) (wm_a3 bd c Z L) rfl (by omega) (by decide) dX8_leftmost_7 ?_
        refine j_eqi (g_EM_lf hE hu hk) ?_
        refine j_if_lt_n C 8 21 (by omega) dX8_leftmost_8 (by decide) (fun h => absurd h (by omega)) (fun _ => ?_)
        refine j_aload_n C 11 1 dX8_leftmost_11 rfl rfl ?_
        refine j_get C 12 (ci := 8) hL rfl 0 (wm_o0 bd c Z L) 4 (by decide) f16 rfl (v := .ref (bd 3)) rfl dX8_leftmost_12 ?_
        refine j_iload_n C 15 0 dX8_leftmost_15 rfl rfl ?_
        refine j_iald C 16 3 0 (f := Z 3) (wm_a3 bd c Z L) rfl (by omega) (by decide) dX8_leftmost_16 ?_
        refine j_eqi (g_EM_lf hE hu hk) ?_
        refine j_istore_n C 17 (lv' := [(2, .int (nI (g_lf τ u))), (0, .ref (bd 0)), (1, .int (nI (t)))]) dX8_leftmost_17 rfl (by rw [hn]; decide) rfl ?_
        refine j_goto C 18 2 dX8_leftmost_18 (by decide) ?_
        exact j_lv [0, 1, 2] rfl (ih (g_lf τ u) (by omega) _ (Nat.le_refl _) (by omega) (by rw [hlm, hlm2]) _ rfl)
      · rw [if_neg hk] at hlm2
        refine j_aload_n C 2 1 dX8_leftmost_2 rfl rfl ?_
        refine j_get C 3 (ci := 8) hL rfl 0 (wm_o0 bd c Z L) 4 (by decide) f16 rfl (v := .ref (bd 3)) rfl dX8_leftmost_3 ?_
        refine j_iload_n C 6 0 dX8_leftmost_6 rfl rfl ?_
        refine j_iald C 7 3 0 (f := Z 3) (wm_a3 bd c Z L) rfl (by omega) (by decide) dX8_leftmost_7 ?_
        refine j_eqi ((hE u hu).2.2.1.trans (if_neg hk)) ?_
        refine j_if_lt C 8 21 dX8_leftmost_8 (by decide) (fun _ => ?_) (fun h => absurd (by decide) h)
        refine j_iload_n C 21 0 dX8_leftmost_21 rfl rfl ?_
        exact j_ireti C hr E (Nat.le_refl _) (Nat.le_refl _) rfl () (by rw [hlm, hlm2]) rfl dX8_leftmost_22
  refine j_iload_n C 0 1 dX8_leftmost_0 rfl rfl ?_
  refine j_istore_n C 1 (lv' := [(2, .int (nI (t))), (0, .ref (bd 0)), (1, .int (nI (t)))]) dX8_leftmost_1 rfl (by rw [hn]; decide) rfl ?_
  exact j_lv [0, 1, 2] rfl (loop t t (Nat.le_refl _) ht rfl _ rfl)
set_option maxHeartbeats 4000000 in
set_option maxRecDepth 100000 in
theorem c_X8_isGuarded (ll : Launch) (D : va_G) (bd : Nat → Nat) (c : Nat → ClassId) (Z : ZT) (L : LT) {n : Nat} {τ : Tb} {root : Nat} (t k : Nat) (hwf : g_WF n τ) (hr2 : root < n) (hE : g_EM n τ Z) (ht : t ∈ g_P τ root) (hk5 : g_kd τ t = 5) (hB : g_BM τ root Z) (hb : g_B τ root (g_sg τ t) t = some k) : cI (S := Unit) ll yX8_isGuarded vsX8_isGuarded ({ frames := 0, cells := 0, slots := 0, locals := 0 } : Room) D (tysG c) [.ref (bd 0), .int (nI (t))] (wm bd c Z L) (fun _ => wm bd c Z L) (fun r _ => r = b2 (g_G τ root (g_sg τ t) t)) 0 0 := by
  refine cI_start (cc := cX8_isGuarded) (maxL := 5) RX8 rfl (by decide +kernel) rfl (Nat.le_of_ble_eq_true rfl) ?_
  intro κ hlκ C hr _ E hR hn
  subst hlκ
  have hL : ∀ w ∈ u_ws RX8 TX8 28, w.before (ja κ) (js κ) = true := fun w h => C.t w (mX8_isGuarded_wsX80 w h)
  have f41 : (Cond.fieldLink RX8 41 "GuardedGrammarModel" (TX8 12).2.1 (TX8 12).2.2.1).before (ja κ) (js κ) = true := C.t (.fieldLink RX8 41 "GuardedGrammarModel" "binder" "[I") (mX8_isGuarded_o _ (by decide +kernel))
  have f22 : (Cond.fieldLink RX8 22 "GuardedGrammarModel" (TX8 6).2.1 (TX8 6).2.2.1).before (ja κ) (js κ) = true := C.t (.fieldLink RX8 22 "GuardedGrammarModel" "whole" "[I") (mX8_isGuarded_o _ (by decide +kernel))
  have f7 : (Cond.fieldLink RX8 7 "GuardedGrammarModel" (TX8 2).2.1 (TX8 2).2.2.1).before (ja κ) (js κ) = true := C.t (.fieldLink RX8 7 "GuardedGrammarModel" "kind" "[I") (mX8_isGuarded_o _ (by decide +kernel))
  have f19 : (Cond.fieldLink RX8 19 "GuardedGrammarModel" (TX8 5).2.1 (TX8 5).2.2.1).before (ja κ) (js κ) = true := C.t (.fieldLink RX8 19 "GuardedGrammarModel" "two" "[I") (mX8_isGuarded_o _ (by decide +kernel))
  show J D κ 0 0 0 [(0, .ref (bd 0)), (1, .int (nI (t)))] [] (wm bd c Z L)
  have h48n := hwf.1
  have htn := g_P_lt hwf hr2 ht
  have hbk : Z 11 t = nI k := by rw [hB t ht hk5, hb]; rfl
  have hkq := g_B_some hwf hr2 _ _ ht (Nat.le_refl _) hb
  have hkn := g_P_lt hwf hr2 hkq.2.2.2.1
  have loop : ∀ m u (ga : Bool), root - u ≤ m → u ∈ g_P τ root → g_G τ root (g_sg τ t) t = (ga || (if u = k then false else g_G τ root (g_sg τ t) u)) → (u ≠ k → g_B τ root (g_sg τ t) u = some k) → ∀ lv, lv_pick lv [0, 1, 2, 3] = [(3, .int (nI u)), (2, .int (b2 ga)), (0, .ref (bd 0)), (1, .int (nI t))] → J D κ 0 0 4 lv [] (wm bd c Z L) := by
    intro m
    induction m using Nat.strongRecOn with
    | ind m ih =>
      intro u ga hm hu hg hb2 lv hlv
      have hun := g_P_lt hwf hr2 hu
      refine j_lv [0, 1, 2, 3] hlv ?_
      by_cases huk : u = k
      · rw [if_pos huk, Bool.or_false] at hg
        refine j_iload_n C 4 0 dX8_isGuarded_4 rfl rfl ?_
        refine j_aload_n C 5 2 dX8_isGuarded_5 rfl rfl ?_
        refine j_get C 6 (ci := 8) hL rfl 0 (wm_o0 bd c Z L) 12 (by decide) f41 rfl (v := .ref (bd 11)) rfl dX8_isGuarded_6 ?_
        refine j_iload_n C 9 3 dX8_isGuarded_9 rfl rfl ?_
        refine j_iald C 10 11 0 (f := Z 11) (wm_a11 bd c Z L) rfl (by omega) (by decide) dX8_isGuarded_10 ?_
        refine j_eqi hbk ?_
        refine j_icmp_eq_n C 11 60 (by omega) (by omega) dX8_isGuarded_11 (by decide) (fun _ => ?_) (fun h => absurd h (by omega))
        refine j_iload_n C 60 1 dX8_isGuarded_60 rfl rfl ?_
        exact j_ireti C hr E (Nat.le_refl _) (Nat.le_refl _) (zr_b _) () (by rw [hg]) rfl dX8_isGuarded_61
      · have hbu := hb2 huk
        have hur : u ≠ root := fun e => by rw [g_B_eq hwf hr2 _ hu, if_pos e] at hbu; cases hbu
        obtain ⟨u1, u2, u3, u4, hip, u6⟩ := g_up hwf hr2 hu hur
        have gw := g_G_eq hwf hr2 (g_sg τ t) hu
        have bw := g_B_eq hwf hr2 (g_sg τ t) hu
        rw [if_neg hur] at gw bw
        rw [if_neg huk] at hg
        have hrw : g_kd τ (g_wh τ u) = 3 → g_rt τ (g_wh τ u) < g_wh τ u := fun z => (g_rtP hwf hr2 u3 (Or.inl z)).2.1
        have hkw := (hwf.2 _ u2).1
        have next : ∀ gb : Bool, gb = (ga || decide (g_kd τ (g_wh τ u) = 3 ∧ g_rt τ (g_wh τ u) = u)) → ∀ lv, lv_pick lv [0, 1, 2, 3] = [(4, .int (nI (g_wh τ u))), (3, .int (nI u)), (0, .ref (bd 0)), (1, .int (nI t))] → J D κ 0 0 53 lv [.int (b2 gb)] (wm bd c Z L) := by
          intro gb hgb lv hlv
          refine j_lv [0, 1, 2, 3] hlv ?_
          refine j_istore_n C 53 (lv' := [(2, .int (b2 (gb))), (4, .int (nI (g_wh τ u))), (3, .int (nI (u))), (0, .ref (bd 0)), (1, .int (nI (t)))]) dX8_isGuarded_53 rfl (by rw [hn]; decide) rfl ?_
          refine j_iload C 54 1 dX8_isGuarded_54 rfl ?_
          refine j_istore_n C 56 (lv' := [(3, .int (nI (g_wh τ u))), (2, .int (b2 (gb))), (4, .int (nI (g_wh τ u))), (0, .ref (bd 0)), (1, .int (nI (t)))]) dX8_isGuarded_56 rfl (by rw [hn]; decide) rfl ?_
          refine j_goto C 57 4 dX8_isGuarded_57 (by decide) ?_
          refine j_lv [0, 1, 3, 4] rfl (ih (root - g_wh τ u) (by omega) _ gb (Nat.le_refl _) u3 ?_ (fun hne => ?_) _ rfl)
          · rw [hg, gw, hgb, Bool.or_assoc]
            congr 2
            by_cases hkk : g_kd τ (g_wh τ u) = 6 ∧ g_sg τ (g_wh τ u) = g_sg τ t
            · rw [if_pos hkk] at bw ⊢
              rw [hbu] at bw; cases bw; rw [if_pos rfl]
            · rw [if_neg hkk] at bw ⊢
              have hne : g_wh τ u ≠ k := fun e => hkk (by rw [e]; exact ⟨hkq.2.1, hkq.2.2.1⟩)
              rw [if_neg hne]
          · rw [if_neg (fun z => ?_)] at bw
            · rw [← bw]; exact hbu
            · rw [if_pos z] at bw; rw [hbu] at bw; cases bw; exact hne rfl
        refine j_iload_n C 4 0 dX8_isGuarded_4 rfl rfl ?_
        refine j_aload_n C 5 2 dX8_isGuarded_5 rfl rfl ?_
        refine j_get C 6 (ci := 8) hL rfl 0 (wm_o0 bd c Z L) 12 (by decide) f41 rfl (v := .ref (bd 11)) rfl dX8_isGuarded_6 ?_
        refine j_iload_n C 9 3 dX8_isGuarded_9 rfl rfl ?_
        refine j_iald C 10 11 0 (f := Z 11) (wm_a11 bd c Z L) rfl (by omega) (by decide) dX8_isGuarded_10 ?_
        refine j_eqi hbk ?_
        refine j_icmp_eq_n C 11 60 (by omega) (by omega) dX8_isGuarded_11 (by decide) (fun h => absurd h (by omega)) (fun _ => ?_)
        refine j_aload_n C 14 2 dX8_isGuarded_14 rfl rfl ?_
        refine j_get C 15 (ci := 8) hL rfl 0 (wm_o0 bd c Z L) 6 (by decide) f22 rfl (v := .ref (bd 5)) rfl dX8_isGuarded_15 ?_
        refine j_iload_n C 18 0 dX8_isGuarded_18 rfl rfl ?_
        refine j_iald C 19 5 0 (f := Z 5) (wm_a5 bd c Z L) rfl (by omega) (by decide) dX8_isGuarded_19 ?_
        refine j_eqi (g_EM_wh hE hun hip) ?_
        refine j_istore C 20 (lv' := [(4, .int (nI (g_wh τ u))), (3, .int (nI (u))), (2, .int (b2 (ga))), (0, .ref (bd 0)), (1, .int (nI (t)))]) dX8_isGuarded_20 (by rw [hn]; decide) rfl ?_
        refine j_iload_n C 22 2 dX8_isGuarded_22 rfl rfl ?_
        refine j_if_ne_b C 23 48 dX8_isGuarded_23 (by decide) (fun h23 => ?_) (fun h23 => ?_)
        · refine j_iconst C 48 (v := nI 1) dX8_isGuarded_48 rfl ?_
          refine j_goto C 49 53 dX8_isGuarded_49 (by decide) ?_
          exact j_lv [0, 1, 3, 4] rfl (next true (by rw [h23]; rfl) _ rfl)
        · refine j_aload_n C 26 3 dX8_isGuarded_26 rfl rfl ?_
          refine j_get C 27 (ci := 8) hL rfl 0 (wm_o0 bd c Z L) 2 (by decide) f7 rfl (v := .ref (bd 1)) rfl dX8_isGuarded_27 ?_
          refine j_iload C 30 0 dX8_isGuarded_30 rfl ?_
          refine j_iald C 32 1 0 (f := Z 1) (wm_a1 bd c Z L) rfl (by omega) (by decide) dX8_isGuarded_32 ?_
          refine j_eqi (hE _ u2).1 ?_
          refine j_iconst C 33 (v := nI 3) dX8_isGuarded_33 rfl ?_
          refine j_icmp_ne_n C 34 52 (by omega) (by omega) dX8_isGuarded_34 (by decide) (fun h34 => ?_) (fun h34 => ?_)
          · refine j_iconst C 52 (v := nI 0) dX8_isGuarded_52 rfl ?_
            exact j_lv [0, 1, 3, 4] rfl (next false (by rw [h23, decide_eq_false (fun z => h34 z.1)]; rfl) _ rfl)
          · refine j_aload_n C 37 3 dX8_isGuarded_37 rfl rfl ?_
            refine j_get C 38 (ci := 8) hL rfl 0 (wm_o0 bd c Z L) 5 (by decide) f19 rfl (v := .ref (bd 4)) rfl dX8_isGuarded_38 ?_
            refine j_iload C 41 0 dX8_isGuarded_41 rfl ?_
            refine j_iald C 43 4 0 (f := Z 4) (wm_a4 bd c Z L) rfl (by omega) (by decide) dX8_isGuarded_43 ?_
            refine j_eqi (g_EM_rt hE u2 (Or.inl h34)) ?_
            refine j_iload_n C 44 1 dX8_isGuarded_44 rfl rfl ?_
            refine j_icmp_ne_n C 45 52 (by omega) (by omega) dX8_isGuarded_45 (by decide) (fun h45 => ?_) (fun h45 => ?_)
            · refine j_iconst C 52 (v := nI 0) dX8_isGuarded_52 rfl ?_
              exact j_lv [0, 1, 3, 4] rfl (next false (by rw [h23, decide_eq_false (fun z => h45 z.2)]; rfl) _ rfl)
            · refine j_iconst C 48 (v := nI 1) dX8_isGuarded_48 rfl ?_
              refine j_goto C 49 53 dX8_isGuarded_49 (by decide) ?_
              exact j_lv [0, 1, 3, 4] rfl (next true (by rw [h23, decide_eq_true (And.intro h34 h45)]; rfl) _ rfl)
  refine j_iconst C 0 (v := nI 0) dX8_isGuarded_0 rfl ?_
  refine j_eqi (show nI 0 = b2 false from rfl) ?_
  refine j_istore_n C 1 (lv' := [(2, .int (b2 (false))), (0, .ref (bd 0)), (1, .int (nI (t)))]) dX8_isGuarded_1 rfl (by rw [hn]; decide) rfl ?_
  refine j_iload_n C 2 2 dX8_isGuarded_2 rfl rfl ?_
  refine j_istore_n C 3 (lv' := [(3, .int (nI (t))), (2, .int (b2 (false))), (0, .ref (bd 0)), (1, .int (nI (t)))]) dX8_isGuarded_3 rfl (by rw [hn]; decide) rfl ?_
  exact j_lv [0, 1, 2, 3] rfl (loop (root - t) t false (Nat.le_refl _) ht (by rw [if_neg (show t ≠ k by omega), Bool.false_or]) (fun _ => hb) _ rfl)
