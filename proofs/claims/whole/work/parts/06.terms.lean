/-! contracts: Terms, Word, Steps -/
theorem bt_1 {P : Prop} [Decidable P] (h : P) : nI 1 = b2 (decide P) := by rw [decide_eq_true h]; rfl
theorem bt_0 {P : Prop} [Decidable P] (h : ¬ P) : nI 0 = b2 (decide P) := by rw [decide_eq_false h]; rfl
set_option maxHeartbeats 4000000 in
set_option maxRecDepth 100000 in
theorem c_X4_kind (ll : Launch) (D : va_G) (ad ro : Nat → Nat) (c : Nat → ClassId) (Z : ZT) (L : LT) (t : Nat) (ht : t < 48) : cI (S := Unit) ll yX4_kind vsX4_kind ({ frames := 0, cells := 0, slots := 0, locals := 0 } : Room) D (tysG c) [.ref (ad 1), .int (nI (t))] (wd ad ro c Z L) (fun _ => wd ad ro c Z L) (fun r _ => r = Z 9 t) 0 0 := by
  refine cI_start (cc := cX4_kind) (maxL := 2) RX4 rfl (by decide +kernel) rfl (Nat.le_of_ble_eq_true rfl) ?_
  intro κ hlκ C hr _ E hR hn
  subst hlκ
  have hL : ∀ w ∈ u_ws RX4 TX4 7, w.before (ja κ) (js κ) = true := fun w h => C.t w (mX4_kind_wsX40 w h)
  have f9 : (Cond.fieldLink RX4 9 "GuardedGrammar$Terms" (TX4 0).2.1 (TX4 0).2.2.1).before (ja κ) (js κ) = true := C.t (.fieldLink RX4 9 "GuardedGrammar$Terms" "kinds" "[I") (mX4_kind_o _ (by decide +kernel))
  show J D κ 0 0 0 [(0, .ref (ad 1)), (1, .int (nI (t)))] [] (wd ad ro c Z L)
  refine j_aload_n C 0 0 dX4_kind_0 rfl rfl ?_
  refine j_get C 1 (ci := 4) hL rfl 1 (wd_o1 ad ro c Z L) 0 (by decide) f9 rfl (v := .ref (ad 9)) rfl dX4_kind_1 ?_
  refine j_iload_n C 4 1 dX4_kind_4 rfl rfl ?_
  refine j_iald C 5 9 0 (f := Z 9) (wd_a9 ad ro c Z L) rfl (by omega) (by decide) dX4_kind_5 ?_
  exact j_ireti C hr E (Nat.le_refl _) (Nat.le_refl _) rfl () rfl rfl dX4_kind_6
set_option maxHeartbeats 4000000 in
set_option maxRecDepth 100000 in
theorem c_X4_value (ll : Launch) (D : va_G) (ad ro : Nat → Nat) (c : Nat → ClassId) (Z : ZT) (L : LT) (t : Nat) (ht : t < 48) : cI (S := Unit) ll yX4_value vsX4_value ({ frames := 0, cells := 0, slots := 0, locals := 0 } : Room) D (tysG c) [.ref (ad 1), .int (nI (t))] (wd ad ro c Z L) (fun _ => wd ad ro c Z L) (fun r _ => r = Z 10 t) 0 0 := by
  refine cI_start (cc := cX4_value) (maxL := 2) RX4 rfl (by decide +kernel) rfl (Nat.le_of_ble_eq_true rfl) ?_
  intro κ hlκ C hr _ E hR hn
  subst hlκ
  have hL : ∀ w ∈ u_ws RX4 TX4 7, w.before (ja κ) (js κ) = true := fun w h => C.t w (mX4_value_wsX40 w h)
  have f15 : (Cond.fieldLink RX4 15 "GuardedGrammar$Terms" (TX4 1).2.1 (TX4 1).2.2.1).before (ja κ) (js κ) = true := C.t (.fieldLink RX4 15 "GuardedGrammar$Terms" "values" "[I") (mX4_value_o _ (by decide +kernel))
  show J D κ 0 0 0 [(0, .ref (ad 1)), (1, .int (nI (t)))] [] (wd ad ro c Z L)
  refine j_aload_n C 0 0 dX4_value_0 rfl rfl ?_
  refine j_get C 1 (ci := 4) hL rfl 1 (wd_o1 ad ro c Z L) 1 (by decide) f15 rfl (v := .ref (ad 10)) rfl dX4_value_1 ?_
  refine j_iload_n C 4 1 dX4_value_4 rfl rfl ?_
  refine j_iald C 5 10 0 (f := Z 10) (wd_a10 ad ro c Z L) rfl (by omega) (by decide) dX4_value_5 ?_
  exact j_ireti C hr E (Nat.le_refl _) (Nat.le_refl _) rfl () rfl rfl dX4_value_6
set_option maxHeartbeats 4000000 in
set_option maxRecDepth 100000 in
theorem c_X4_left (ll : Launch) (D : va_G) (ad ro : Nat → Nat) (c : Nat → ClassId) (Z : ZT) (L : LT) (t : Nat) (ht : t < 48) : cI (S := Unit) ll yX4_left vsX4_left ({ frames := 0, cells := 0, slots := 0, locals := 0 } : Room) D (tysG c) [.ref (ad 1), .int (nI (t))] (wd ad ro c Z L) (fun _ => wd ad ro c Z L) (fun r _ => r = Z 11 t) 0 0 := by
  refine cI_start (cc := cX4_left) (maxL := 2) RX4 rfl (by decide +kernel) rfl (Nat.le_of_ble_eq_true rfl) ?_
  intro κ hlκ C hr _ E hR hn
  subst hlκ
  have hL : ∀ w ∈ u_ws RX4 TX4 7, w.before (ja κ) (js κ) = true := fun w h => C.t w (mX4_left_wsX40 w h)
  have f18 : (Cond.fieldLink RX4 18 "GuardedGrammar$Terms" (TX4 2).2.1 (TX4 2).2.2.1).before (ja κ) (js κ) = true := C.t (.fieldLink RX4 18 "GuardedGrammar$Terms" "lefts" "[I") (mX4_left_o _ (by decide +kernel))
  show J D κ 0 0 0 [(0, .ref (ad 1)), (1, .int (nI (t)))] [] (wd ad ro c Z L)
  refine j_aload_n C 0 0 dX4_left_0 rfl rfl ?_
  refine j_get C 1 (ci := 4) hL rfl 1 (wd_o1 ad ro c Z L) 2 (by decide) f18 rfl (v := .ref (ad 11)) rfl dX4_left_1 ?_
  refine j_iload_n C 4 1 dX4_left_4 rfl rfl ?_
  refine j_iald C 5 11 0 (f := Z 11) (wd_a11 ad ro c Z L) rfl (by omega) (by decide) dX4_left_5 ?_
  exact j_ireti C hr E (Nat.le_refl _) (Nat.le_refl _) rfl () rfl rfl dX4_left_6
set_option maxHeartbeats 4000000 in
set_option maxRecDepth 100000 in
theorem c_X4_right (ll : Launch) (D : va_G) (ad ro : Nat → Nat) (c : Nat → ClassId) (Z : ZT) (L : LT) (t : Nat) (ht : t < 48) : cI (S := Unit) ll yX4_right vsX4_right ({ frames := 0, cells := 0, slots := 0, locals := 0 } : Room) D (tysG c) [.ref (ad 1), .int (nI (t))] (wd ad ro c Z L) (fun _ => wd ad ro c Z L) (fun r _ => r = Z 12 t) 0 0 := by
  refine cI_start (cc := cX4_right) (maxL := 2) RX4 rfl (by decide +kernel) rfl (Nat.le_of_ble_eq_true rfl) ?_
  intro κ hlκ C hr _ E hR hn
  subst hlκ
  have hL : ∀ w ∈ u_ws RX4 TX4 7, w.before (ja κ) (js κ) = true := fun w h => C.t w (mX4_right_wsX40 w h)
  have f21 : (Cond.fieldLink RX4 21 "GuardedGrammar$Terms" (TX4 3).2.1 (TX4 3).2.2.1).before (ja κ) (js κ) = true := C.t (.fieldLink RX4 21 "GuardedGrammar$Terms" "rights" "[I") (mX4_right_o _ (by decide +kernel))
  show J D κ 0 0 0 [(0, .ref (ad 1)), (1, .int (nI (t)))] [] (wd ad ro c Z L)
  refine j_aload_n C 0 0 dX4_right_0 rfl rfl ?_
  refine j_get C 1 (ci := 4) hL rfl 1 (wd_o1 ad ro c Z L) 3 (by decide) f21 rfl (v := .ref (ad 12)) rfl dX4_right_1 ?_
  refine j_iload_n C 4 1 dX4_right_4 rfl rfl ?_
  refine j_iald C 5 12 0 (f := Z 12) (wd_a12 ad ro c Z L) rfl (by omega) (by decide) dX4_right_5 ?_
  exact j_ireti C hr E (Nat.le_refl _) (Nat.le_refl _) rfl () rfl rfl dX4_right_6
set_option maxHeartbeats 4000000 in
set_option maxRecDepth 100000 in
theorem c_X4_whole (ll : Launch) (D : va_G) (ad ro : Nat → Nat) (c : Nat → ClassId) (Z : ZT) (L : LT) (t : Nat) (ht : t < 48) : cI (S := Unit) ll yX4_whole vsX4_whole ({ frames := 0, cells := 0, slots := 0, locals := 0 } : Room) D (tysG c) [.ref (ad 1), .int (nI (t))] (wd ad ro c Z L) (fun _ => wd ad ro c Z L) (fun r _ => r = Z 13 t) 0 0 := by
  refine cI_start (cc := cX4_whole) (maxL := 2) RX4 rfl (by decide +kernel) rfl (Nat.le_of_ble_eq_true rfl) ?_
  intro κ hlκ C hr _ E hR hn
  subst hlκ
  have hL : ∀ w ∈ u_ws RX4 TX4 7, w.before (ja κ) (js κ) = true := fun w h => C.t w (mX4_whole_wsX40 w h)
  have f24 : (Cond.fieldLink RX4 24 "GuardedGrammar$Terms" (TX4 4).2.1 (TX4 4).2.2.1).before (ja κ) (js κ) = true := C.t (.fieldLink RX4 24 "GuardedGrammar$Terms" "wholes" "[I") (mX4_whole_o _ (by decide +kernel))
  show J D κ 0 0 0 [(0, .ref (ad 1)), (1, .int (nI (t)))] [] (wd ad ro c Z L)
  refine j_aload_n C 0 0 dX4_whole_0 rfl rfl ?_
  refine j_get C 1 (ci := 4) hL rfl 1 (wd_o1 ad ro c Z L) 4 (by decide) f24 rfl (v := .ref (ad 13)) rfl dX4_whole_1 ?_
  refine j_iload_n C 4 1 dX4_whole_4 rfl rfl ?_
  refine j_iald C 5 13 0 (f := Z 13) (wd_a13 ad ro c Z L) rfl (by omega) (by decide) dX4_whole_5 ?_
  exact j_ireti C hr E (Nat.le_refl _) (Nat.le_refl _) rfl () rfl rfl dX4_whole_6
set_option maxHeartbeats 4000000 in
set_option maxRecDepth 100000 in
theorem c_X4_size (ll : Launch) (D : va_G) (ad ro : Nat → Nat) (c : Nat → ClassId) (Z : ZT) (L : LT)   : cI (S := Unit) ll yX4_size vsX4_size ({ frames := 0, cells := 0, slots := 0, locals := 0 } : Room) D (tysG c) [.ref (ad 1)] (wd ad ro c Z L) (fun _ => wd ad ro c Z L) (fun r _ => r = Z 40 0) 0 0 := by
  refine cI_start (cc := cX4_size) (maxL := 1) RX4 rfl (by decide +kernel) rfl (Nat.le_of_ble_eq_true rfl) ?_
  intro κ hlκ C hr _ E hR hn
  subst hlκ
  have hL : ∀ w ∈ u_ws RX4 TX4 7, w.before (ja κ) (js κ) = true := fun w h => C.t w (mX4_size_wsX40 w h)
  have f30 : (Cond.fieldLink RX4 30 "GuardedGrammar$Terms" (TX4 6).2.1 (TX4 6).2.2.1).before (ja κ) (js κ) = true := C.t (.fieldLink RX4 30 "GuardedGrammar$Terms" "size" "I") (mX4_size_o _ (by decide +kernel))
  show J D κ 0 0 0 [(0, .ref (ad 1))] [] (wd ad ro c Z L)
  refine j_aload_n C 0 0 dX4_size_0 rfl rfl ?_
  refine j_get C 1 (ci := 4) hL rfl 1 (wd_o1 ad ro c Z L) 6 (by decide) f30 rfl (v := .int (Z 40 0)) rfl dX4_size_1 ?_
  exact j_ireti C hr E (Nat.le_refl _) (Nat.le_refl _) rfl () rfl rfl dX4_size_4
set_option maxHeartbeats 4000000 in
set_option maxRecDepth 100000 in
theorem c_X4_isPart (ll : Launch) (D : va_G) (ad ro : Nat → Nat) (c : Nat → ClassId) (Z : ZT) (L : LT) (t : Nat) (ht : t < 48) : cI (S := Unit) ll yX4_isPart vsX4_isPart ({ frames := 0, cells := 0, slots := 0, locals := 0 } : Room) D (tysG c) [.ref (ad 1), .int (nI (t))] (wd ad ro c Z L) (fun _ => wd ad ro c Z L) (fun r _ => r = b2 (decide (¬ Z 13 t = -1))) 0 0 := by
  refine cI_start (cc := cX4_isPart) (maxL := 2) RX4 rfl (by decide +kernel) rfl (Nat.le_of_ble_eq_true rfl) ?_
  intro κ hlκ C hr _ E hR hn
  subst hlκ
  have hL : ∀ w ∈ u_ws RX4 TX4 7, w.before (ja κ) (js κ) = true := fun w h => C.t w (mX4_isPart_wsX40 w h)
  have f24 : (Cond.fieldLink RX4 24 "GuardedGrammar$Terms" (TX4 4).2.1 (TX4 4).2.2.1).before (ja κ) (js κ) = true := C.t (.fieldLink RX4 24 "GuardedGrammar$Terms" "wholes" "[I") (mX4_isPart_o _ (by decide +kernel))
  show J D κ 0 0 0 [(0, .ref (ad 1)), (1, .int (nI (t)))] [] (wd ad ro c Z L)
  refine j_aload_n C 0 0 dX4_isPart_0 rfl rfl ?_
  refine j_get C 1 (ci := 4) hL rfl 1 (wd_o1 ad ro c Z L) 4 (by decide) f24 rfl (v := .ref (ad 13)) rfl dX4_isPart_1 ?_
  refine j_iload_n C 4 1 dX4_isPart_4 rfl rfl ?_
  refine j_iald C 5 13 0 (f := Z 13) (wd_a13 ad ro c Z L) rfl (by omega) (by decide) dX4_isPart_5 ?_
  refine j_iconst C 6 (v := -1) dX4_isPart_6 rfl ?_
  refine j_icmp_eq C 7 14 dX4_isPart_7 (by decide) (fun h7 => ?_) (fun h7 => ?_)
  · refine j_iconst C 14 (v := nI 0) dX4_isPart_14 rfl ?_
    exact j_ireti C hr E (Nat.le_refl _) (Nat.le_refl _) (by decide) () (bt_0 (fun q => q h7)) rfl dX4_isPart_15
  · refine j_iconst C 10 (v := nI 1) dX4_isPart_10 rfl ?_
    refine j_goto C 11 15 dX4_isPart_11 (by decide) ?_
    exact j_ireti C hr E (Nat.le_refl _) (Nat.le_refl _) (by decide) () (bt_1 h7) rfl dX4_isPart_15
set_option maxHeartbeats 4000000 in
set_option maxRecDepth 100000 in
theorem c_X4_has (ll : Launch) (D : va_G) (ad ro : Nat → Nat) (c : Nat → ClassId) (Z : ZT) (L : LT) (x : Int32)  : cI (S := Unit) ll yX4_has vsX4_has ({ frames := 0, cells := 0, slots := 0, locals := 0 } : Room) D (tysG c) [.ref (ad 1), .int (x)] (wd ad ro c Z L) (fun _ => wd ad ro c Z L) (fun r _ => r = b2 (decide (¬ x < 0 ∧ x < Z 40 0))) 0 0 := by
  refine cI_start (cc := cX4_has) (maxL := 2) RX4 rfl (by decide +kernel) rfl (Nat.le_of_ble_eq_true rfl) ?_
  intro κ hlκ C hr _ E hR hn
  subst hlκ
  have hL : ∀ w ∈ u_ws RX4 TX4 7, w.before (ja κ) (js κ) = true := fun w h => C.t w (mX4_has_wsX40 w h)
  have f30 : (Cond.fieldLink RX4 30 "GuardedGrammar$Terms" (TX4 6).2.1 (TX4 6).2.2.1).before (ja κ) (js κ) = true := C.t (.fieldLink RX4 30 "GuardedGrammar$Terms" "size" "I") (mX4_has_o _ (by decide +kernel))
  show J D κ 0 0 0 [(0, .ref (ad 1)), (1, .int (x))] [] (wd ad ro c Z L)
  refine j_iload_n C 0 1 dX4_has_0 rfl rfl ?_
  refine j_if_lt C 1 16 dX4_has_1 (by decide) (fun h1 => ?_) (fun h1 => ?_)
  · refine j_iconst C 16 (v := nI 0) dX4_has_16 rfl ?_
    exact j_ireti C hr E (Nat.le_refl _) (Nat.le_refl _) (by decide) () (bt_0 (fun q => q.1 h1)) rfl dX4_has_17
  · refine j_iload_n C 4 1 dX4_has_4 rfl rfl ?_
    refine j_aload_n C 5 0 dX4_has_5 rfl rfl ?_
    refine j_get C 6 (ci := 4) hL rfl 1 (wd_o1 ad ro c Z L) 6 (by decide) f30 rfl (v := .int (Z 40 0)) rfl dX4_has_6 ?_
    refine j_icmp_ge C 9 16 dX4_has_9 (by decide) (fun h9 => ?_) (fun h9 => ?_)
    · refine j_iconst C 16 (v := nI 0) dX4_has_16 rfl ?_
      exact j_ireti C hr E (Nat.le_refl _) (Nat.le_refl _) (by decide) () (bt_0 (fun q => (by first | exact h9 q.2 | exact absurd q.2 (Int32.not_lt.mpr h9)))) rfl dX4_has_17
    · refine j_iconst C 12 (v := nI 1) dX4_has_12 rfl ?_
      refine j_goto C 13 17 dX4_has_13 (by decide) ?_
      exact j_ireti C hr E (Nat.le_refl _) (Nat.le_refl _) (by decide) () (bt_1 ⟨h1, (by first | exact h9 | exact Int32.not_le.mp h9)⟩) rfl dX4_has_17
set_option maxHeartbeats 4000000 in
set_option maxRecDepth 100000 in
theorem c_X4_isFull (ll : Launch) (D : va_G) (ad ro : Nat → Nat) (c : Nat → ClassId) (Z : ZT) (L : LT)   : cI (S := Unit) ll yX4_isFull vsX4_isFull ({ frames := 0, cells := 0, slots := 0, locals := 0 } : Room) D (tysG c) [.ref (ad 1)] (wd ad ro c Z L) (fun _ => wd ad ro c Z L) (fun r _ => r = b2 (decide (¬ Z 40 0 < nI 48))) 0 0 := by
  refine cI_start (cc := cX4_isFull) (maxL := 1) RX4 rfl (by decide +kernel) rfl (Nat.le_of_ble_eq_true rfl) ?_
  intro κ hlκ C hr _ E hR hn
  subst hlκ
  have hL : ∀ w ∈ u_ws RX4 TX4 7, w.before (ja κ) (js κ) = true := fun w h => C.t w (mX4_isFull_wsX40 w h)
  have f30 : (Cond.fieldLink RX4 30 "GuardedGrammar$Terms" (TX4 6).2.1 (TX4 6).2.2.1).before (ja κ) (js κ) = true := C.t (.fieldLink RX4 30 "GuardedGrammar$Terms" "size" "I") (mX4_isFull_o _ (by decide +kernel))
  show J D κ 0 0 0 [(0, .ref (ad 1))] [] (wd ad ro c Z L)
  refine j_aload_n C 0 0 dX4_isFull_0 rfl rfl ?_
  refine j_get C 1 (ci := 4) hL rfl 1 (wd_o1 ad ro c Z L) 6 (by decide) f30 rfl (v := .int (Z 40 0)) rfl dX4_isFull_1 ?_
  refine j_bipush C 4 (v := nI 48) dX4_isFull_4 rfl ?_
  refine j_icmp_lt C 6 13 dX4_isFull_6 (by decide) (fun h6 => ?_) (fun h6 => ?_)
  · refine j_iconst C 13 (v := nI 0) dX4_isFull_13 rfl ?_
    exact j_ireti C hr E (Nat.le_refl _) (Nat.le_refl _) (by decide) () (bt_0 (fun q => q (by first | exact h6 | exact Decidable.of_not_not h6))) rfl dX4_isFull_14
  · refine j_iconst C 9 (v := nI 1) dX4_isFull_9 rfl ?_
    refine j_goto C 10 14 dX4_isFull_10 (by decide) ?_
    exact j_ireti C hr E (Nat.le_refl _) (Nat.le_refl _) (by decide) () (bt_1 h6) rfl dX4_isFull_14
set_option maxHeartbeats 4000000 in
set_option maxRecDepth 100000 in
theorem c_X4_forgetAll (ll : Launch) (D : va_G) (ad ro : Nat → Nat) (c : Nat → ClassId) (Z : ZT) (L : LT)   : cV (S := Unit) ll yX4_forgetAll vsX4_forgetAll ({ frames := 0, cells := 0, slots := 0, locals := 0 } : Room) D (tysG c) [.ref (ad 1)] (wd ad ro c Z L) (fun _ => wd ad ro c (upR Z 40 (fun _ => nI 0)) L) (fun _ => True) 0 0 := by
  refine cV_start (cc := cX4_forgetAll) (maxL := 1) RX4 rfl (by decide +kernel) rfl (Nat.le_of_ble_eq_true rfl) ?_
  intro κ hlκ C hr _ E hR hn
  subst hlκ
  have hL : ∀ w ∈ u_ws RX4 TX4 7, w.before (ja κ) (js κ) = true := fun w h => C.t w (mX4_forgetAll_wsX40 w h)
  have f30 : (Cond.fieldLink RX4 30 "GuardedGrammar$Terms" (TX4 6).2.1 (TX4 6).2.2.1).before (ja κ) (js κ) = true := C.t (.fieldLink RX4 30 "GuardedGrammar$Terms" "size" "I") (mX4_forgetAll_o _ (by decide +kernel))
  show J D κ 0 0 0 [(0, .ref (ad 1))] [] (wd ad ro c Z L)
  refine j_aload_n C 0 0 dX4_forgetAll_0 rfl rfl ?_
  refine j_iconst C 1 (v := nI 0) dX4_forgetAll_1 rfl ?_
  refine j_put C 2 (ci := 4) hL tyX4_ok nmX4 rfl 1 (wd_o1 ad ro c Z L) 6 (by decide) f30 rfl rfl (tyX4_ok 6 (by decide)) rfl rfl (Nat.le_of_ble_eq_true rfl) (wd_p40 ad ro c Z L (nI (0))) dX4_forgetAll_2 ?_
  exact j_vreti C hr E (Nat.le_refl _) (Nat.le_refl _) () trivial rfl dX4_forgetAll_5
set_option maxHeartbeats 4000000 in
set_option maxRecDepth 100000 in
theorem c_X4_knotsIn (ll : Launch) (D : va_G) (ad ro : Nat → Nat) (c : Nat → ClassId) (Z : ZT) (L : LT) (x : Int32) (hx : x = -1 ∨ ∃ k : Nat, k < 48 ∧ x = nI k) : cI (S := Unit) ll yX4_knotsIn vsX4_knotsIn ({ frames := 0, cells := 0, slots := 0, locals := 0 } : Room) D (tysG c) [.ref (ad 1), .int (x)] (wd ad ro c Z L) (fun _ => wd ad ro c Z L) (fun r _ => r = if x = -1 then 0 else Z 14 x.toNatClampNeg) 0 0 := by
  refine cI_start (cc := cX4_knotsIn) (maxL := 2) RX4 rfl (by decide +kernel) rfl (Nat.le_of_ble_eq_true rfl) ?_
  intro κ hlκ C hr _ E hR hn
  subst hlκ
  have hL : ∀ w ∈ u_ws RX4 TX4 7, w.before (ja κ) (js κ) = true := fun w h => C.t w (mX4_knotsIn_wsX40 w h)
  have f27 : (Cond.fieldLink RX4 27 "GuardedGrammar$Terms" (TX4 5).2.1 (TX4 5).2.2.1).before (ja κ) (js κ) = true := C.t (.fieldLink RX4 27 "GuardedGrammar$Terms" "knots" "[I") (mX4_knotsIn_o _ (by decide +kernel))
  show J D κ 0 0 0 [(0, .ref (ad 1)), (1, .int (x))] [] (wd ad ro c Z L)
  by_cases hxm : x = -1
  · subst hxm
    refine j_iload_n C 0 1 (x := -1) dX4_knotsIn_0 rfl rfl ?_
    refine j_iconst C 1 (v := -1) dX4_knotsIn_1 rfl ?_
    refine j_icmp_ne C 2 9 dX4_knotsIn_2 (by decide) (fun h => absurd rfl h) (fun _ => ?_)
    refine j_iconst C 5 (v := nI 0) dX4_knotsIn_5 rfl ?_
    refine j_goto C 6 15 dX4_knotsIn_6 (by decide) ?_
    exact j_ireti C hr E (Nat.le_refl _) (Nat.le_refl _) rfl () (by rw [if_pos rfl]; rfl) rfl dX4_knotsIn_15
  · obtain ⟨k, hk, rfl⟩ : ∃ k : Nat, k < 48 ∧ x = nI k := hx.resolve_left hxm
    refine j_iload_n C 0 1 dX4_knotsIn_0 rfl rfl ?_
    refine j_iconst C 1 (v := -1) dX4_knotsIn_1 rfl ?_
    refine j_icmp_ne C 2 9 dX4_knotsIn_2 (by decide) (fun _ => ?_) (fun h => absurd h hxm)
    refine j_aload_n C 9 0 dX4_knotsIn_9 rfl rfl ?_
    refine j_get C 10 (ci := 4) hL rfl 1 (wd_o1 ad ro c Z L) 5 (by decide) f27 rfl (v := .ref (ad 14)) rfl dX4_knotsIn_10 ?_
    refine j_iload_n C 13 1 dX4_knotsIn_13 rfl rfl ?_
    refine j_iald C 14 14 0 (f := Z 14) (wd_a14 ad ro c Z L) rfl (by omega) (by decide) dX4_knotsIn_14 ?_
    exact j_ireti C hr E (Nat.le_refl _) (Nat.le_refl _) rfl () (by rw [if_neg hxm, nI_clamp (by omega)]) rfl dX4_knotsIn_15
set_option maxHeartbeats 4000000 in
set_option maxRecDepth 100000 in
theorem c_X4_makePart (ll : Launch) (D : va_G) (ad ro : Nat → Nat) (c : Nat → ClassId) (Z : ZT) (L : LT) (x w : Int32) (hx : x = -1 ∨ ∃ k : Nat, k < 48 ∧ x = nI k) : cV (S := Unit) ll yX4_makePart vsX4_makePart ({ frames := 0, cells := 0, slots := 0, locals := 0 } : Room) D (tysG c) [.ref (ad 1), .int (x), .int (w)] (wd ad ro c Z L) (fun _ => wd ad ro c (if x = -1 then Z else upR Z 13 (upd (Z 13) x.toNatClampNeg w)) L) (fun _ => True) 0 0 := by
  refine cV_start (cc := cX4_makePart) (maxL := 3) RX4 rfl (by decide +kernel) rfl (Nat.le_of_ble_eq_true rfl) ?_
  intro κ hlκ C hr _ E hR hn
  subst hlκ
  have hL : ∀ w ∈ u_ws RX4 TX4 7, w.before (ja κ) (js κ) = true := fun w h => C.t w (mX4_makePart_wsX40 w h)
  have f24 : (Cond.fieldLink RX4 24 "GuardedGrammar$Terms" (TX4 4).2.1 (TX4 4).2.2.1).before (ja κ) (js κ) = true := C.t (.fieldLink RX4 24 "GuardedGrammar$Terms" "wholes" "[I") (mX4_makePart_o _ (by decide +kernel))
  show J D κ 0 0 0 [(0, .ref (ad 1)), (1, .int (x)), (2, .int (w))] [] (wd ad ro c Z L)
  by_cases hxm : x = -1
  · subst hxm
    refine j_iload_n C 0 1 (x := -1) dX4_makePart_0 rfl rfl ?_
    refine j_iconst C 1 (v := -1) dX4_makePart_1 rfl ?_
    refine j_icmp_eq C 2 12 dX4_makePart_2 (by decide) (fun _ => ?_) (fun h => absurd rfl h)
    exact j_vreti C hr E (Nat.le_refl _) (Nat.le_refl _) () trivial (by rw [if_pos rfl]) dX4_makePart_12
  · obtain ⟨k, hk, rfl⟩ : ∃ k : Nat, k < 48 ∧ x = nI k := hx.resolve_left hxm
    refine j_iload_n C 0 1 dX4_makePart_0 rfl rfl ?_
    refine j_iconst C 1 (v := -1) dX4_makePart_1 rfl ?_
    refine j_icmp_eq C 2 12 dX4_makePart_2 (by decide) (fun h => absurd h hxm) (fun _ => ?_)
    refine j_aload_n C 5 0 dX4_makePart_5 rfl rfl ?_
    refine j_get C 6 (ci := 4) hL rfl 1 (wd_o1 ad ro c Z L) 4 (by decide) f24 rfl (v := .ref (ad 13)) rfl dX4_makePart_6 ?_
    refine j_iload_n C 9 1 dX4_makePart_9 rfl rfl ?_
    refine j_iload_n C 10 2 dX4_makePart_10 rfl rfl ?_
    refine j_iast C 11 13 0 (f := Z 13) (wd_a13 ad ro c Z L) rfl (by omega) (by decide) (wd_s13 ad ro c Z L (upd (Z 13) (k) (w))) dX4_makePart_11 ?_
    exact j_vreti C hr E (Nat.le_refl _) (Nat.le_refl _) () trivial (by rw [if_neg hxm, nI_clamp (by omega)]) dX4_makePart_12
set_option maxHeartbeats 4000000 in
set_option maxRecDepth 100000 in
theorem c_X6_size (ll : Launch) (D : va_G) (ad ro : Nat → Nat) (c : Nat → ClassId) (Z : ZT) (L : LT)   : cI (S := Unit) ll yX6_size vsX6_size ({ frames := 0, cells := 0, slots := 0, locals := 0 } : Room) D (tysG c) [.ref (ad 3)] (wd ad ro c Z L) (fun _ => wd ad ro c Z L) (fun r _ => r = Z 42 0) 0 0 := by
  refine cI_start (cc := cX6_size) (maxL := 1) RX6 rfl (by decide +kernel) rfl (Nat.le_of_ble_eq_true rfl) ?_
  intro κ hlκ C hr _ E hR hn
  subst hlκ
  have hL : ∀ w ∈ u_ws RX6 TX6 2, w.before (ja κ) (js κ) = true := fun w h => C.t w (mX6_size_wsX60 w h)
  have f15 : (Cond.fieldLink RX6 15 "GuardedGrammar$Word" (TX6 1).2.1 (TX6 1).2.2.1).before (ja κ) (js κ) = true := C.t (.fieldLink RX6 15 "GuardedGrammar$Word" "size" "I") (mX6_size_o _ (by decide +kernel))
  show J D κ 0 0 0 [(0, .ref (ad 3))] [] (wd ad ro c Z L)
  refine j_aload_n C 0 0 dX6_size_0 rfl rfl ?_
  refine j_get C 1 (ci := 6) hL rfl 3 (wd_o3 ad ro c Z L) 1 (by decide) f15 rfl (v := .int (Z 42 0)) rfl dX6_size_1 ?_
  exact j_ireti C hr E (Nat.le_refl _) (Nat.le_refl _) rfl () rfl rfl dX6_size_4
set_option maxHeartbeats 4000000 in
set_option maxRecDepth 100000 in
theorem c_X6_at (ll : Launch) (D : va_G) (ad ro : Nat → Nat) (c : Nat → ClassId) (Z : ZT) (L : LT) (i : Nat) (hi : i < 40) : cI (S := Unit) ll yX6_at vsX6_at ({ frames := 0, cells := 0, slots := 0, locals := 0 } : Room) D (tysG c) [.ref (ad 3), .int (nI (i))] (wd ad ro c Z L) (fun _ => wd ad ro c Z L) (fun r _ => r = Z 22 i) 0 0 := by
  refine cI_start (cc := cX6_at) (maxL := 2) RX6 rfl (by decide +kernel) rfl (Nat.le_of_ble_eq_true rfl) ?_
  intro κ hlκ C hr _ E hR hn
  subst hlκ
  have hL : ∀ w ∈ u_ws RX6 TX6 2, w.before (ja κ) (js κ) = true := fun w h => C.t w (mX6_at_wsX60 w h)
  have f9 : (Cond.fieldLink RX6 9 "GuardedGrammar$Word" (TX6 0).2.1 (TX6 0).2.2.1).before (ja κ) (js κ) = true := C.t (.fieldLink RX6 9 "GuardedGrammar$Word" "letters" "[I") (mX6_at_o _ (by decide +kernel))
  show J D κ 0 0 0 [(0, .ref (ad 3)), (1, .int (nI (i)))] [] (wd ad ro c Z L)
  refine j_aload_n C 0 0 dX6_at_0 rfl rfl ?_
  refine j_get C 1 (ci := 6) hL rfl 3 (wd_o3 ad ro c Z L) 0 (by decide) f9 rfl (v := .ref (ad 22)) rfl dX6_at_1 ?_
  refine j_iload_n C 4 1 dX6_at_4 rfl rfl ?_
  refine j_iald C 5 22 0 (f := Z 22) (wd_a22 ad ro c Z L) rfl (by omega) (by decide) dX6_at_5 ?_
  exact j_ireti C hr E (Nat.le_refl _) (Nat.le_refl _) rfl () rfl rfl dX6_at_6
set_option maxHeartbeats 4000000 in
set_option maxRecDepth 100000 in
theorem c_X6_isFull (ll : Launch) (D : va_G) (ad ro : Nat → Nat) (c : Nat → ClassId) (Z : ZT) (L : LT)   : cI (S := Unit) ll yX6_isFull vsX6_isFull ({ frames := 0, cells := 0, slots := 0, locals := 0 } : Room) D (tysG c) [.ref (ad 3)] (wd ad ro c Z L) (fun _ => wd ad ro c Z L) (fun r _ => r = b2 (decide (¬ Z 42 0 < nI 40))) 0 0 := by
  refine cI_start (cc := cX6_isFull) (maxL := 1) RX6 rfl (by decide +kernel) rfl (Nat.le_of_ble_eq_true rfl) ?_
  intro κ hlκ C hr _ E hR hn
  subst hlκ
  have hL : ∀ w ∈ u_ws RX6 TX6 2, w.before (ja κ) (js κ) = true := fun w h => C.t w (mX6_isFull_wsX60 w h)
  have f15 : (Cond.fieldLink RX6 15 "GuardedGrammar$Word" (TX6 1).2.1 (TX6 1).2.2.1).before (ja κ) (js κ) = true := C.t (.fieldLink RX6 15 "GuardedGrammar$Word" "size" "I") (mX6_isFull_o _ (by decide +kernel))
  show J D κ 0 0 0 [(0, .ref (ad 3))] [] (wd ad ro c Z L)
  refine j_aload_n C 0 0 dX6_isFull_0 rfl rfl ?_
  refine j_get C 1 (ci := 6) hL rfl 3 (wd_o3 ad ro c Z L) 1 (by decide) f15 rfl (v := .int (Z 42 0)) rfl dX6_isFull_1 ?_
  refine j_bipush C 4 (v := nI 40) dX6_isFull_4 rfl ?_
  refine j_icmp_lt C 6 13 dX6_isFull_6 (by decide) (fun h6 => ?_) (fun h6 => ?_)
  · refine j_iconst C 13 (v := nI 0) dX6_isFull_13 rfl ?_
    exact j_ireti C hr E (Nat.le_refl _) (Nat.le_refl _) (by decide) () (bt_0 (fun q => q (by first | exact h6 | exact Decidable.of_not_not h6))) rfl dX6_isFull_14
  · refine j_iconst C 9 (v := nI 1) dX6_isFull_9 rfl ?_
    refine j_goto C 10 14 dX6_isFull_10 (by decide) ?_
    exact j_ireti C hr E (Nat.le_refl _) (Nat.le_refl _) (by decide) () (bt_1 h6) rfl dX6_isFull_14
set_option maxHeartbeats 4000000 in
set_option maxRecDepth 100000 in
theorem c_X6_keep (ll : Launch) (D : va_G) (ad ro : Nat → Nat) (c : Nat → ClassId) (Z : ZT) (L : LT) (x : Int32)  : cV (S := Unit) ll yX6_keep vsX6_keep ({ frames := 0, cells := 0, slots := 0, locals := 0 } : Room) D (tysG c) [.ref (ad 3), .int (x)] (wd ad ro c Z L) (fun _ => wd ad ro c (upR Z 42 (fun _ => x)) L) (fun _ => True) 0 0 := by
  refine cV_start (cc := cX6_keep) (maxL := 2) RX6 rfl (by decide +kernel) rfl (Nat.le_of_ble_eq_true rfl) ?_
  intro κ hlκ C hr _ E hR hn
  subst hlκ
  have hL : ∀ w ∈ u_ws RX6 TX6 2, w.before (ja κ) (js κ) = true := fun w h => C.t w (mX6_keep_wsX60 w h)
  have f15 : (Cond.fieldLink RX6 15 "GuardedGrammar$Word" (TX6 1).2.1 (TX6 1).2.2.1).before (ja κ) (js κ) = true := C.t (.fieldLink RX6 15 "GuardedGrammar$Word" "size" "I") (mX6_keep_o _ (by decide +kernel))
  show J D κ 0 0 0 [(0, .ref (ad 3)), (1, .int (x))] [] (wd ad ro c Z L)
  refine j_aload_n C 0 0 dX6_keep_0 rfl rfl ?_
  refine j_iload_n C 1 1 dX6_keep_1 rfl rfl ?_
  refine j_put C 2 (ci := 6) hL tyX6_ok nmX6 rfl 3 (wd_o3 ad ro c Z L) 1 (by decide) f15 rfl rfl (tyX6_ok 1 (by decide)) rfl rfl (Nat.le_of_ble_eq_true rfl) (wd_p42 ad ro c Z L (x)) dX6_keep_2 ?_
  exact j_vreti C hr E (Nat.le_refl _) (Nat.le_refl _) () trivial rfl dX6_keep_5
set_option maxHeartbeats 4000000 in
set_option maxRecDepth 100000 in
theorem c_X6_add (ll : Launch) (D : va_G) (ad ro : Nat → Nat) (c : Nat → ClassId) (Z : ZT) (L : LT) (x : Int32) (k : Nat) (hz : Z 42 0 = nI k) (hk : k < 40) : cV (S := Unit) ll yX6_add vsX6_add ({ frames := 0, cells := 0, slots := 0, locals := 0 } : Room) D (tysG c) [.ref (ad 3), .int (x)] (wd ad ro c Z L) (fun _ => wd ad ro c (upR (upR Z 22 (upd (Z 22) k x)) 42 (fun _ => nI (k + 1))) L) (fun _ => True) 0 0 := by
  refine cV_start (cc := cX6_add) (maxL := 2) RX6 rfl (by decide +kernel) rfl (Nat.le_of_ble_eq_true rfl) ?_
  intro κ hlκ C hr _ E hR hn
  subst hlκ
  have hL : ∀ w ∈ u_ws RX6 TX6 2, w.before (ja κ) (js κ) = true := fun w h => C.t w (mX6_add_wsX60 w h)
  have f9 : (Cond.fieldLink RX6 9 "GuardedGrammar$Word" (TX6 0).2.1 (TX6 0).2.2.1).before (ja κ) (js κ) = true := C.t (.fieldLink RX6 9 "GuardedGrammar$Word" "letters" "[I") (mX6_add_o _ (by decide +kernel))
  have f15 : (Cond.fieldLink RX6 15 "GuardedGrammar$Word" (TX6 1).2.1 (TX6 1).2.2.1).before (ja κ) (js κ) = true := C.t (.fieldLink RX6 15 "GuardedGrammar$Word" "size" "I") (mX6_add_o _ (by decide +kernel))
  show J D κ 0 0 0 [(0, .ref (ad 3)), (1, .int (x))] [] (wd ad ro c Z L)
  refine j_aload_n C 0 0 dX6_add_0 rfl rfl ?_
  refine j_get C 1 (ci := 6) hL rfl 3 (wd_o3 ad ro c Z L) 0 (by decide) f9 rfl (v := .ref (ad 22)) rfl dX6_add_1 ?_
  refine j_aload_n C 4 0 dX6_add_4 rfl rfl ?_
  refine j_get C 5 (ci := 6) hL rfl 3 (wd_o3 ad ro c Z L) 1 (by decide) f15 rfl (v := .int (Z 42 0)) rfl dX6_add_5 ?_
  refine j_eqi hz ?_
  refine j_iload_n C 8 1 dX6_add_8 rfl rfl ?_
  refine j_iast C 9 22 0 (f := Z 22) (wd_a22 ad ro c Z L) rfl (by omega) (by decide) (wd_s22 ad ro c Z L (upd (Z 22) (k) (x))) dX6_add_9 ?_
  refine j_aload_n C 10 0 dX6_add_10 rfl rfl ?_
  refine j_dup C 11 dX6_add_11 rfl ?_
  refine j_get C 12 (ci := 6) hL rfl 3 (wd_o3 ad ro c (upR Z 22 (upd (Z 22) (k) (x))) L) 1 (by decide) f15 rfl (v := .int (Z 42 0)) rfl dX6_add_12 ?_
  refine j_eqi hz ?_
  refine j_iconst C 15 (v := nI 1) dX6_add_15 rfl ?_
  refine j_iadd_e C 16 dX6_add_16 (nI_add _ _) ?_
  refine j_put C 17 (ci := 6) hL tyX6_ok nmX6 rfl 3 (wd_o3 ad ro c (upR Z 22 (upd (Z 22) (k) (x))) L) 1 (by decide) f15 rfl rfl (tyX6_ok 1 (by decide)) rfl rfl (Nat.le_of_ble_eq_true rfl) (wd_p42 ad ro c (upR Z 22 (upd (Z 22) (k) (x))) L (nI (k + 1))) dX6_add_17 ?_
  exact j_vreti C hr E (Nat.le_refl _) (Nat.le_refl _) () trivial rfl dX6_add_20
