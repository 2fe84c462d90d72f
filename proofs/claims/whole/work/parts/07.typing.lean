/-! contracts: Typing -/
set_option maxHeartbeats 4000000 in
set_option maxRecDepth 100000 in
theorem c_X5_size (ll : Launch) (D : va_G) (ad ro : Nat → Nat) (c : Nat → ClassId) (Z : ZT) (L : LT) (s : Nat) (hs : Z 41 0 = nI s) (hs2 : s ≤ 48) : cI (S := Unit) ll yX5_size vsX5_size ({ frames := 0, cells := 0, slots := 0, locals := 0 } : Room) D (tysG c) [.ref (ad 2)] (wd ad ro c Z L) (fun _ => wd ad ro c Z L) (fun r _ => r = nI (48 - s)) 0 0 := by
  refine cI_start (cc := cX5_size) (maxL := 1) RX5 rfl (by decide +kernel) rfl (Nat.le_of_ble_eq_true rfl) ?_
  intro κ hlκ C hr _ E hR hn
  subst hlκ
  have hL : ∀ w ∈ u_ws RX5 TX5 9, w.before (ja κ) (js κ) = true := fun w h => C.t w (mX5_size_wsX50 w h)
  have f34 : (Cond.fieldLink RX5 34 "GuardedGrammar$Typing" (TX5 8).2.1 (TX5 8).2.2.1).before (ja κ) (js κ) = true := C.t (.fieldLink RX5 34 "GuardedGrammar$Typing" "start" "I") (mX5_size_o _ (by decide +kernel))
  show J D κ 0 0 0 [(0, .ref (ad 2))] [] (wd ad ro c Z L)
  refine j_bipush C 0 (v := nI 48) dX5_size_0 rfl ?_
  refine j_aload_n C 2 0 dX5_size_2 rfl rfl ?_
  refine j_get C 3 (ci := 5) hL rfl 2 (wd_o2 ad ro c Z L) 8 (by decide) f34 rfl (v := .int (Z 41 0)) rfl dX5_size_3 ?_
  refine j_eqi hs ?_
  refine j_isub_e C 6 dX5_size_6 (pk_sub (by omega)) ?_
  exact j_ireti C hr E (Nat.le_refl _) (Nat.le_refl _) rfl () rfl rfl dX5_size_7
set_option maxHeartbeats 4000000 in
set_option maxRecDepth 100000 in
theorem c_X5_inOrder (ll : Launch) (D : va_G) (ad ro : Nat → Nat) (c : Nat → ClassId) (Z : ZT) (L : LT) (i s : Nat) (hs : Z 41 0 = nI s) (hi : s + i < 48) : cI (S := Unit) ll yX5_inOrder vsX5_inOrder ({ frames := 0, cells := 0, slots := 0, locals := 0 } : Room) D (tysG c) [.ref (ad 2), .int (nI (i))] (wd ad ro c Z L) (fun _ => wd ad ro c Z L) (fun r _ => r = Z 15 (s + i)) 0 0 := by
  refine cI_start (cc := cX5_inOrder) (maxL := 2) RX5 rfl (by decide +kernel) rfl (Nat.le_of_ble_eq_true rfl) ?_
  intro κ hlκ C hr _ E hR hn
  subst hlκ
  have hL : ∀ w ∈ u_ws RX5 TX5 9, w.before (ja κ) (js κ) = true := fun w h => C.t w (mX5_inOrder_wsX50 w h)
  have f9 : (Cond.fieldLink RX5 9 "GuardedGrammar$Typing" (TX5 1).2.1 (TX5 1).2.2.1).before (ja κ) (js κ) = true := C.t (.fieldLink RX5 9 "GuardedGrammar$Typing" "order" "[I") (mX5_inOrder_o _ (by decide +kernel))
  have f34 : (Cond.fieldLink RX5 34 "GuardedGrammar$Typing" (TX5 8).2.1 (TX5 8).2.2.1).before (ja κ) (js κ) = true := C.t (.fieldLink RX5 34 "GuardedGrammar$Typing" "start" "I") (mX5_inOrder_o _ (by decide +kernel))
  show J D κ 0 0 0 [(0, .ref (ad 2)), (1, .int (nI (i)))] [] (wd ad ro c Z L)
  refine j_aload_n C 0 0 dX5_inOrder_0 rfl rfl ?_
  refine j_get C 1 (ci := 5) hL rfl 2 (wd_o2 ad ro c Z L) 1 (by decide) f9 rfl (v := .ref (ad 15)) rfl dX5_inOrder_1 ?_
  refine j_aload_n C 4 0 dX5_inOrder_4 rfl rfl ?_
  refine j_get C 5 (ci := 5) hL rfl 2 (wd_o2 ad ro c Z L) 8 (by decide) f34 rfl (v := .int (Z 41 0)) rfl dX5_inOrder_5 ?_
  refine j_eqi hs ?_
  refine j_iload_n C 8 1 dX5_inOrder_8 rfl rfl ?_
  refine j_iadd_e C 9 dX5_inOrder_9 (nI_add _ _) ?_
  refine j_iald C 10 15 0 (f := Z 15) (wd_a15 ad ro c Z L) rfl (by omega) (by decide) dX5_inOrder_10 ?_
  exact j_ireti C hr E (Nat.le_refl _) (Nat.le_refl _) rfl () rfl rfl dX5_inOrder_11
set_option maxHeartbeats 4000000 in
set_option maxRecDepth 100000 in
theorem c_X5_isNullable (ll : Launch) (D : va_G) (ad ro : Nat → Nat) (c : Nat → ClassId) (Z : ZT) (L : LT) (t : Nat) (b : Bool) (ht : t < 48) (hb : Z 19 t = b2 b) : cI (S := Unit) ll yX5_isNullable vsX5_isNullable ({ frames := 0, cells := 0, slots := 0, locals := 0 } : Room) D (tysG c) [.ref (ad 2), .int (nI (t))] (wd ad ro c Z L) (fun _ => wd ad ro c Z L) (fun r _ => r = b2 b) 0 0 := by
  refine cI_start (cc := cX5_isNullable) (maxL := 2) RX5 rfl (by decide +kernel) rfl (Nat.le_of_ble_eq_true rfl) ?_
  intro κ hlκ C hr _ E hR hn
  subst hlκ
  have hL : ∀ w ∈ u_ws RX5 TX5 9, w.before (ja κ) (js κ) = true := fun w h => C.t w (mX5_isNullable_wsX50 w h)
  have f25 : (Cond.fieldLink RX5 25 "GuardedGrammar$Typing" (TX5 5).2.1 (TX5 5).2.2.1).before (ja κ) (js κ) = true := C.t (.fieldLink RX5 25 "GuardedGrammar$Typing" "nullable" "[Z") (mX5_isNullable_o _ (by decide +kernel))
  show J D κ 0 0 0 [(0, .ref (ad 2)), (1, .int (nI (t)))] [] (wd ad ro c Z L)
  refine j_aload_n C 0 0 dX5_isNullable_0 rfl rfl ?_
  refine j_get C 1 (ci := 5) hL rfl 2 (wd_o2 ad ro c Z L) 5 (by decide) f25 rfl (v := .ref (ad 19)) rfl dX5_isNullable_1 ?_
  refine j_iload_n C 4 1 dX5_isNullable_4 rfl rfl ?_
  refine j_zald C 5 19 1 (f := Z 19) (wd_a19 ad ro c Z L) rfl (by omega) (by decide) dX5_isNullable_5 ?_
  refine j_eqi hb ?_
  exact j_ireti C hr E (Nat.le_refl _) (Nat.le_refl _) (zr_b _) () rfl rfl dX5_isNullable_6
set_option maxHeartbeats 4000000 in
set_option maxRecDepth 100000 in
theorem c_X5_firstOf (ll : Launch) (D : va_G) (ad ro : Nat → Nat) (c : Nat → ClassId) (Z : ZT) (L : LT) (t : Nat) (ht : t < 48) : cI (S := Unit) ll yX5_firstOf vsX5_firstOf ({ frames := 0, cells := 0, slots := 0, locals := 0 } : Room) D (tysG c) [.ref (ad 2), .int (nI (t))] (wd ad ro c Z L) (fun _ => wd ad ro c Z L) (fun r _ => r = Z 20 t) 0 0 := by
  refine cI_start (cc := cX5_firstOf) (maxL := 2) RX5 rfl (by decide +kernel) rfl (Nat.le_of_ble_eq_true rfl) ?_
  intro κ hlκ C hr _ E hR hn
  subst hlκ
  have hL : ∀ w ∈ u_ws RX5 TX5 9, w.before (ja κ) (js κ) = true := fun w h => C.t w (mX5_firstOf_wsX50 w h)
  have f28 : (Cond.fieldLink RX5 28 "GuardedGrammar$Typing" (TX5 6).2.1 (TX5 6).2.2.1).before (ja κ) (js κ) = true := C.t (.fieldLink RX5 28 "GuardedGrammar$Typing" "firsts" "[I") (mX5_firstOf_o _ (by decide +kernel))
  show J D κ 0 0 0 [(0, .ref (ad 2)), (1, .int (nI (t)))] [] (wd ad ro c Z L)
  refine j_aload_n C 0 0 dX5_firstOf_0 rfl rfl ?_
  refine j_get C 1 (ci := 5) hL rfl 2 (wd_o2 ad ro c Z L) 6 (by decide) f28 rfl (v := .ref (ad 20)) rfl dX5_firstOf_1 ?_
  refine j_iload_n C 4 1 dX5_firstOf_4 rfl rfl ?_
  refine j_iald C 5 20 0 (f := Z 20) (wd_a20 ad ro c Z L) rfl (by omega) (by decide) dX5_firstOf_5 ?_
  exact j_ireti C hr E (Nat.le_refl _) (Nat.le_refl _) rfl () rfl rfl dX5_firstOf_6
set_option maxHeartbeats 4000000 in
set_option maxRecDepth 100000 in
theorem c_X5_afterOf (ll : Launch) (D : va_G) (ad ro : Nat → Nat) (c : Nat → ClassId) (Z : ZT) (L : LT) (t : Nat) (ht : t < 48) : cI (S := Unit) ll yX5_afterOf vsX5_afterOf ({ frames := 0, cells := 0, slots := 0, locals := 0 } : Room) D (tysG c) [.ref (ad 2), .int (nI (t))] (wd ad ro c Z L) (fun _ => wd ad ro c Z L) (fun r _ => r = Z 21 t) 0 0 := by
  refine cI_start (cc := cX5_afterOf) (maxL := 2) RX5 rfl (by decide +kernel) rfl (Nat.le_of_ble_eq_true rfl) ?_
  intro κ hlκ C hr _ E hR hn
  subst hlκ
  have hL : ∀ w ∈ u_ws RX5 TX5 9, w.before (ja κ) (js κ) = true := fun w h => C.t w (mX5_afterOf_wsX50 w h)
  have f31 : (Cond.fieldLink RX5 31 "GuardedGrammar$Typing" (TX5 7).2.1 (TX5 7).2.2.1).before (ja κ) (js κ) = true := C.t (.fieldLink RX5 31 "GuardedGrammar$Typing" "afters" "[I") (mX5_afterOf_o _ (by decide +kernel))
  show J D κ 0 0 0 [(0, .ref (ad 2)), (1, .int (nI (t)))] [] (wd ad ro c Z L)
  refine j_aload_n C 0 0 dX5_afterOf_0 rfl rfl ?_
  refine j_get C 1 (ci := 5) hL rfl 2 (wd_o2 ad ro c Z L) 7 (by decide) f31 rfl (v := .ref (ad 21)) rfl dX5_afterOf_1 ?_
  refine j_iload_n C 4 1 dX5_afterOf_4 rfl rfl ?_
  refine j_iald C 5 21 0 (f := Z 21) (wd_a21 ad ro c Z L) rfl (by omega) (by decide) dX5_afterOf_5 ?_
  exact j_ireti C hr E (Nat.le_refl _) (Nat.le_refl _) rfl () rfl rfl dX5_afterOf_6
set_option maxHeartbeats 4000000 in
set_option maxRecDepth 100000 in
theorem c_X5_binder (ll : Launch) (D : va_G) (ad ro : Nat → Nat) (c : Nat → ClassId) (Z : ZT) (L : LT) (t : Nat) (ht : t < 48) : cI (S := Unit) ll yX5_binder vsX5_binder ({ frames := 0, cells := 0, slots := 0, locals := 0 } : Room) D (tysG c) [.ref (ad 2), .int (nI (t))] (wd ad ro c Z L) (fun _ => wd ad ro c Z L) (fun r _ => r = Z 17 t) 0 0 := by
  refine cI_start (cc := cX5_binder) (maxL := 2) RX5 rfl (by decide +kernel) rfl (Nat.le_of_ble_eq_true rfl) ?_
  intro κ hlκ C hr _ E hR hn
  subst hlκ
  have hL : ∀ w ∈ u_ws RX5 TX5 9, w.before (ja κ) (js κ) = true := fun w h => C.t w (mX5_binder_wsX50 w h)
  have f18 : (Cond.fieldLink RX5 18 "GuardedGrammar$Typing" (TX5 3).2.1 (TX5 3).2.2.1).before (ja κ) (js κ) = true := C.t (.fieldLink RX5 18 "GuardedGrammar$Typing" "binders" "[I") (mX5_binder_o _ (by decide +kernel))
  show J D κ 0 0 0 [(0, .ref (ad 2)), (1, .int (nI (t)))] [] (wd ad ro c Z L)
  refine j_aload_n C 0 0 dX5_binder_0 rfl rfl ?_
  refine j_get C 1 (ci := 5) hL rfl 2 (wd_o2 ad ro c Z L) 3 (by decide) f18 rfl (v := .ref (ad 17)) rfl dX5_binder_1 ?_
  refine j_iload_n C 4 1 dX5_binder_4 rfl rfl ?_
  refine j_iald C 5 17 0 (f := Z 17) (wd_a17 ad ro c Z L) rfl (by omega) (by decide) dX5_binder_5 ?_
  exact j_ireti C hr E (Nat.le_refl _) (Nat.le_refl _) rfl () rfl rfl dX5_binder_6
set_option maxHeartbeats 4000000 in
set_option maxRecDepth 100000 in
theorem c_X5_isLoose (ll : Launch) (D : va_G) (ad ro : Nat → Nat) (c : Nat → ClassId) (Z : ZT) (L : LT) (l r : Nat) (nl : Bool) (wl fr : Nat) (hl : l < 48) (hr2 : r < 48) (a1 : Z 19 l = b2 nl) (a2 : Z 21 l = nI wl) (a3 : Z 20 r = nI fr) (hw : wl < 256) : cI (S := Unit) ll yX5_isLoose vsX5_isLoose ({ frames := 0, cells := 0, slots := 0, locals := 0 } : Room) D (tysG c) [.ref (ad 2), .int (nI (l)), .int (nI (r))] (wd ad ro c Z L) (fun _ => wd ad ro c Z L) (fun r _ => r = b2 (decide (nl = true ∨ wl &&& fr ≠ 0))) 0 0 := by
  refine cI_start (cc := cX5_isLoose) (maxL := 3) RX5 rfl (by decide +kernel) rfl (Nat.le_of_ble_eq_true rfl) ?_
  intro κ hlκ C hr _ E hR hn
  subst hlκ
  have hL : ∀ w ∈ u_ws RX5 TX5 9, w.before (ja κ) (js κ) = true := fun w h => C.t w (mX5_isLoose_wsX50 w h)
  have f25 : (Cond.fieldLink RX5 25 "GuardedGrammar$Typing" (TX5 5).2.1 (TX5 5).2.2.1).before (ja κ) (js κ) = true := C.t (.fieldLink RX5 25 "GuardedGrammar$Typing" "nullable" "[Z") (mX5_isLoose_o _ (by decide +kernel))
  have f31 : (Cond.fieldLink RX5 31 "GuardedGrammar$Typing" (TX5 7).2.1 (TX5 7).2.2.1).before (ja κ) (js κ) = true := C.t (.fieldLink RX5 31 "GuardedGrammar$Typing" "afters" "[I") (mX5_isLoose_o _ (by decide +kernel))
  have f28 : (Cond.fieldLink RX5 28 "GuardedGrammar$Typing" (TX5 6).2.1 (TX5 6).2.2.1).before (ja κ) (js κ) = true := C.t (.fieldLink RX5 28 "GuardedGrammar$Typing" "firsts" "[I") (mX5_isLoose_o _ (by decide +kernel))
  show J D κ 0 0 0 [(0, .ref (ad 2)), (1, .int (nI (l))), (2, .int (nI (r)))] [] (wd ad ro c Z L)
  refine j_aload_n C 0 0 dX5_isLoose_0 rfl rfl ?_
  refine j_get C 1 (ci := 5) hL rfl 2 (wd_o2 ad ro c Z L) 5 (by decide) f25 rfl (v := .ref (ad 19)) rfl dX5_isLoose_1 ?_
  refine j_iload_n C 4 1 dX5_isLoose_4 rfl rfl ?_
  refine j_zald C 5 19 1 (f := Z 19) (wd_a19 ad ro c Z L) rfl (by first | omega | exact e_lt (by assumption)) (by decide) dX5_isLoose_5 ?_
  refine j_eqi a1 ?_
  refine j_if_ne_b C 6 25 dX5_isLoose_6 (by decide) (fun h6 => ?_) (fun h6 => ?_)
  · refine j_iconst C 25 (v := nI 1) dX5_isLoose_25 rfl ?_
    refine j_goto C 26 30 dX5_isLoose_26 (by decide) ?_
    exact j_ireti C hr E (Nat.le_refl _) (Nat.le_refl _) (by decide) () (bt_1 (Or.inl h6)) rfl dX5_isLoose_30
  · refine j_aload_n C 9 0 dX5_isLoose_9 rfl rfl ?_
    refine j_get C 10 (ci := 5) hL rfl 2 (wd_o2 ad ro c Z L) 7 (by decide) f31 rfl (v := .ref (ad 21)) rfl dX5_isLoose_10 ?_
    refine j_iload_n C 13 1 dX5_isLoose_13 rfl rfl ?_
    refine j_iald C 14 21 0 (f := Z 21) (wd_a21 ad ro c Z L) rfl (by first | omega | exact e_lt (by assumption)) (by decide) dX5_isLoose_14 ?_
    refine j_eqi a2 ?_
    refine j_aload_n C 15 0 dX5_isLoose_15 rfl rfl ?_
    refine j_get C 16 (ci := 5) hL rfl 2 (wd_o2 ad ro c Z L) 6 (by decide) f28 rfl (v := .ref (ad 20)) rfl dX5_isLoose_16 ?_
    refine j_iload_n C 19 2 dX5_isLoose_19 rfl rfl ?_
    refine j_iald C 20 20 0 (f := Z 20) (wd_a20 ad ro c Z L) rfl (by first | omega | exact e_lt (by assumption)) (by decide) dX5_isLoose_20 ?_
    refine j_eqi a3 ?_
    refine j_iand C 21 dX5_isLoose_21 ?_
    refine j_eqi (e_and wl fr) ?_
    refine j_if_eq_n C 22 29 (by first | omega | exact e_lt (by assumption)) dX5_isLoose_22 (by decide) (fun h22 => ?_) (fun h22 => ?_)
    · refine j_iconst C 29 (v := nI 0) dX5_isLoose_29 rfl ?_
      exact j_ireti C hr E (Nat.le_refl _) (Nat.le_refl _) (by decide) () (bt_0 (fun q => q.elim (fun q => by rw [h6] at q; cases q) (fun q => q h22))) rfl dX5_isLoose_30
    · refine j_iconst C 25 (v := nI 1) dX5_isLoose_25 rfl ?_
      refine j_goto C 26 30 dX5_isLoose_26 (by decide) ?_
      exact j_ireti C hr E (Nat.le_refl _) (Nat.le_refl _) (by decide) () (bt_1 (Or.inr h22)) rfl dX5_isLoose_30
set_option maxHeartbeats 4000000 in
set_option maxRecDepth 100000 in
theorem c_X5_isDouble (ll : Launch) (D : va_G) (ad ro : Nat → Nat) (c : Nat → ClassId) (Z : ZT) (L : LT) (l r : Nat) (nl nr : Bool) (fl fr : Nat) (hl : l < 48) (hr2 : r < 48) (a1 : Z 19 l = b2 nl) (a2 : Z 19 r = b2 nr) (a3 : Z 20 l = nI fl) (a4 : Z 20 r = nI fr) (hw : fl < 256) : cI (S := Unit) ll yX5_isDouble vsX5_isDouble ({ frames := 0, cells := 0, slots := 0, locals := 0 } : Room) D (tysG c) [.ref (ad 2), .int (nI (l)), .int (nI (r))] (wd ad ro c Z L) (fun _ => wd ad ro c Z L) (fun r _ => r = b2 (decide ((nl && nr) = true ∨ fl &&& fr ≠ 0))) 0 0 := by
  refine cI_start (cc := cX5_isDouble) (maxL := 3) RX5 rfl (by decide +kernel) rfl (Nat.le_of_ble_eq_true rfl) ?_
  intro κ hlκ C hr _ E hR hn
  subst hlκ
  have hL : ∀ w ∈ u_ws RX5 TX5 9, w.before (ja κ) (js κ) = true := fun w h => C.t w (mX5_isDouble_wsX50 w h)
  have f25 : (Cond.fieldLink RX5 25 "GuardedGrammar$Typing" (TX5 5).2.1 (TX5 5).2.2.1).before (ja κ) (js κ) = true := C.t (.fieldLink RX5 25 "GuardedGrammar$Typing" "nullable" "[Z") (mX5_isDouble_o _ (by decide +kernel))
  have f28 : (Cond.fieldLink RX5 28 "GuardedGrammar$Typing" (TX5 6).2.1 (TX5 6).2.2.1).before (ja κ) (js κ) = true := C.t (.fieldLink RX5 28 "GuardedGrammar$Typing" "firsts" "[I") (mX5_isDouble_o _ (by decide +kernel))
  show J D κ 0 0 0 [(0, .ref (ad 2)), (1, .int (nI (l))), (2, .int (nI (r)))] [] (wd ad ro c Z L)
  refine j_aload_n C 0 0 dX5_isDouble_0 rfl rfl ?_
  refine j_get C 1 (ci := 5) hL rfl 2 (wd_o2 ad ro c Z L) 5 (by decide) f25 rfl (v := .ref (ad 19)) rfl dX5_isDouble_1 ?_
  refine j_iload_n C 4 1 dX5_isDouble_4 rfl rfl ?_
  refine j_zald C 5 19 1 (f := Z 19) (wd_a19 ad ro c Z L) rfl (by first | omega | exact e_lt (by assumption)) (by decide) dX5_isDouble_5 ?_
  refine j_eqi a1 ?_
  refine j_if_eq_b C 6 18 dX5_isDouble_6 (by decide) (fun h6 => ?_) (fun h6 => ?_)
  · refine j_aload_n C 18 0 dX5_isDouble_18 rfl rfl ?_
    refine j_get C 19 (ci := 5) hL rfl 2 (wd_o2 ad ro c Z L) 6 (by decide) f28 rfl (v := .ref (ad 20)) rfl dX5_isDouble_19 ?_
    refine j_iload_n C 22 1 dX5_isDouble_22 rfl rfl ?_
    refine j_iald C 23 20 0 (f := Z 20) (wd_a20 ad ro c Z L) rfl (by first | omega | exact e_lt (by assumption)) (by decide) dX5_isDouble_23 ?_
    refine j_eqi a3 ?_
    refine j_aload_n C 24 0 dX5_isDouble_24 rfl rfl ?_
    refine j_get C 25 (ci := 5) hL rfl 2 (wd_o2 ad ro c Z L) 6 (by decide) f28 rfl (v := .ref (ad 20)) rfl dX5_isDouble_25 ?_
    refine j_iload_n C 28 2 dX5_isDouble_28 rfl rfl ?_
    refine j_iald C 29 20 0 (f := Z 20) (wd_a20 ad ro c Z L) rfl (by first | omega | exact e_lt (by assumption)) (by decide) dX5_isDouble_29 ?_
    refine j_eqi a4 ?_
    refine j_iand C 30 dX5_isDouble_30 ?_
    refine j_eqi (e_and fl fr) ?_
    refine j_if_eq_n C 31 38 (by first | omega | exact e_lt (by assumption)) dX5_isDouble_31 (by decide) (fun h31 => ?_) (fun h31 => ?_)
    · refine j_iconst C 38 (v := nI 0) dX5_isDouble_38 rfl ?_
      exact j_ireti C hr E (Nat.le_refl _) (Nat.le_refl _) (by decide) () (bt_0 (fun q => q.elim (fun q => by rw [h6, Bool.false_and] at q; cases q) (fun q => q h31))) rfl dX5_isDouble_39
    · refine j_iconst C 34 (v := nI 1) dX5_isDouble_34 rfl ?_
      refine j_goto C 35 39 dX5_isDouble_35 (by decide) ?_
      exact j_ireti C hr E (Nat.le_refl _) (Nat.le_refl _) (by decide) () (bt_1 (Or.inr h31)) rfl dX5_isDouble_39
  · refine j_aload_n C 9 0 dX5_isDouble_9 rfl rfl ?_
    refine j_get C 10 (ci := 5) hL rfl 2 (wd_o2 ad ro c Z L) 5 (by decide) f25 rfl (v := .ref (ad 19)) rfl dX5_isDouble_10 ?_
    refine j_iload_n C 13 2 dX5_isDouble_13 rfl rfl ?_
    refine j_zald C 14 19 1 (f := Z 19) (wd_a19 ad ro c Z L) rfl (by first | omega | exact e_lt (by assumption)) (by decide) dX5_isDouble_14 ?_
    refine j_eqi a2 ?_
    refine j_if_ne_b C 15 34 dX5_isDouble_15 (by decide) (fun h15 => ?_) (fun h15 => ?_)
    · refine j_iconst C 34 (v := nI 1) dX5_isDouble_34 rfl ?_
      refine j_goto C 35 39 dX5_isDouble_35 (by decide) ?_
      exact j_ireti C hr E (Nat.le_refl _) (Nat.le_refl _) (by decide) () (bt_1 (Or.inl (by rw [h6, h15]; rfl))) rfl dX5_isDouble_39
    · refine j_aload_n C 18 0 dX5_isDouble_18 rfl rfl ?_
      refine j_get C 19 (ci := 5) hL rfl 2 (wd_o2 ad ro c Z L) 6 (by decide) f28 rfl (v := .ref (ad 20)) rfl dX5_isDouble_19 ?_
      refine j_iload_n C 22 1 dX5_isDouble_22 rfl rfl ?_
      refine j_iald C 23 20 0 (f := Z 20) (wd_a20 ad ro c Z L) rfl (by first | omega | exact e_lt (by assumption)) (by decide) dX5_isDouble_23 ?_
      refine j_eqi a3 ?_
      refine j_aload_n C 24 0 dX5_isDouble_24 rfl rfl ?_
      refine j_get C 25 (ci := 5) hL rfl 2 (wd_o2 ad ro c Z L) 6 (by decide) f28 rfl (v := .ref (ad 20)) rfl dX5_isDouble_25 ?_
      refine j_iload_n C 28 2 dX5_isDouble_28 rfl rfl ?_
      refine j_iald C 29 20 0 (f := Z 20) (wd_a20 ad ro c Z L) rfl (by first | omega | exact e_lt (by assumption)) (by decide) dX5_isDouble_29 ?_
      refine j_eqi a4 ?_
      refine j_iand C 30 dX5_isDouble_30 ?_
      refine j_eqi (e_and fl fr) ?_
      refine j_if_eq_n C 31 38 (by first | omega | exact e_lt (by assumption)) dX5_isDouble_31 (by decide) (fun h31 => ?_) (fun h31 => ?_)
      · refine j_iconst C 38 (v := nI 0) dX5_isDouble_38 rfl ?_
        exact j_ireti C hr E (Nat.le_refl _) (Nat.le_refl _) (by decide) () (bt_0 (fun q => q.elim (fun q => by rw [h15, Bool.and_false] at q; cases q) (fun q => q h31))) rfl dX5_isDouble_39
      · refine j_iconst C 34 (v := nI 1) dX5_isDouble_34 rfl ?_
        refine j_goto C 35 39 dX5_isDouble_35 (by decide) ?_
        exact j_ireti C hr E (Nat.le_refl _) (Nat.le_refl _) (by decide) () (bt_1 (Or.inr h31)) rfl dX5_isDouble_39
set_option maxHeartbeats 4000000 in
set_option maxRecDepth 100000 in
theorem c_X5_side (ll : Launch) (D : va_G) (ad ro : Nat → Nat) (c : Nat → ClassId) (Z : ZT) (L : LT) (t y l r : Nat) (nl nr : Bool) (fl fr : Nat) (ht : t < 48) (ha : Z 11 t = nI l) (hb : Z 12 t = nI r) (hl : l < 48) (hr2 : r < 48) (a1 : Z 19 l = b2 nl) (a2 : Z 19 r = b2 nr) (a3 : Z 20 l = nI fl) (a4 : Z 20 r = nI fr) (hw : fl < 256) (hw2 : fr < 256) : cI (S := Unit) ll yX5_side vsX5_side ({ frames := 1, cells := 0, slots := 0, locals := 21 } : Room) D (tysG c) [.ref (ad 2), .int (nI (t)), .int (nI (y))] (wd ad ro c Z L) (fun _ => wd ad ro c Z L) (fun r _ => r = if ¬ fl &&& y = 0 then 0 else if ¬ fr &&& y = 0 then 1 else if nl = true then 0 else if nr = true then 1 else -1) 0 0 := by
  refine cI_start (cc := cX5_side) (maxL := 5) RX5 rfl (by decide +kernel) rfl (Nat.le_of_ble_eq_true rfl) ?_
  intro κ hlκ C hr _ E hR hn
  subst hlκ
  have hL : ∀ w ∈ u_ws RX5 TX5 9, w.before (ja κ) (js κ) = true := fun w h => C.t w (mX5_side_wsX50 w h)
  have f38 : (Cond.fieldLink RX5 38 "GuardedGrammar$Typing" (TX5 0).2.1 (TX5 0).2.2.1).before (ja κ) (js κ) = true := C.t (.fieldLink RX5 38 "GuardedGrammar$Typing" "terms" "LGuardedGrammar$Terms;") (mX5_side_o _ (by decide +kernel))
  have f28 : (Cond.fieldLink RX5 28 "GuardedGrammar$Typing" (TX5 6).2.1 (TX5 6).2.2.1).before (ja κ) (js κ) = true := C.t (.fieldLink RX5 28 "GuardedGrammar$Typing" "firsts" "[I") (mX5_side_o _ (by decide +kernel))
  have f25 : (Cond.fieldLink RX5 25 "GuardedGrammar$Typing" (TX5 5).2.1 (TX5 5).2.2.1).before (ja κ) (js κ) = true := C.t (.fieldLink RX5 25 "GuardedGrammar$Typing" "nullable" "[Z") (mX5_side_o _ (by decide +kernel))
  show J D κ 0 0 0 [(0, .ref (ad 2)), (1, .int (nI (t))), (2, .int (nI (y)))] [] (wd ad ro c Z L)
  refine j_aload_n C 0 0 dX5_side_0 rfl rfl ?_
  refine j_get C 1 (ci := 5) hL rfl 2 (wd_o2 ad ro c Z L) 0 (by decide) f38 rfl (v := .ref (ad 1)) rfl dX5_side_1 ?_
  refine j_iload_n C 4 1 dX5_side_4 rfl rfl ?_
  refine j_callI (mc := 0) (ms := 0) C 5 (c_X4_left (jl κ) D ad ro c Z L (t) (by first | omega | exact e_lt (by assumption))) gX5_side_X4_left rfl rfl rfl hd_X4_left (by rw [hR]; exact ⟨Nat.le_of_ble_eq_true rfl, Nat.le_of_ble_eq_true rfl⟩) (ci := 4) rfl 1 (wd_o1 ad ro c Z L) rfl (Nat.le_of_ble_eq_true rfl) ⟨Nat.zero_le _, Nat.zero_le _⟩ dX5_side_5 (fun r5 _ e5 => ?_)
  subst e5
  refine j_eqi ha ?_
  refine j_istore_n C 8 (lv' := [(3, .int (nI (l))), (0, .ref (ad 2)), (1, .int (nI (t))), (2, .int (nI (y)))]) dX5_side_8 rfl (by rw [hn]; decide) rfl ?_
  refine j_aload_n C 9 1 dX5_side_9 rfl rfl ?_
  refine j_get C 10 (ci := 5) hL rfl 2 (wd_o2 ad ro c Z L) 0 (by decide) f38 rfl (v := .ref (ad 1)) rfl dX5_side_10 ?_
  refine j_iload_n C 13 2 dX5_side_13 rfl rfl ?_
  refine j_callI (mc := 0) (ms := 0) C 14 (c_X4_right (jl κ) D ad ro c Z L (t) (by first | omega | exact e_lt (by assumption))) gX5_side_X4_right rfl rfl rfl hd_X4_right (by rw [hR]; exact ⟨Nat.le_of_ble_eq_true rfl, Nat.le_of_ble_eq_true rfl⟩) (ci := 4) rfl 1 (wd_o1 ad ro c Z L) rfl (Nat.le_of_ble_eq_true rfl) ⟨Nat.zero_le _, Nat.zero_le _⟩ dX5_side_14 (fun r14 _ e14 => ?_)
  subst e14
  refine j_eqi hb ?_
  refine j_istore C 17 (lv' := [(4, .int (nI (r))), (3, .int (nI (l))), (0, .ref (ad 2)), (1, .int (nI (t))), (2, .int (nI (y)))]) dX5_side_17 (by rw [hn]; decide) rfl ?_
  refine j_aload_n C 19 2 dX5_side_19 rfl rfl ?_
  refine j_get C 20 (ci := 5) hL rfl 2 (wd_o2 ad ro c Z L) 6 (by decide) f28 rfl (v := .ref (ad 20)) rfl dX5_side_20 ?_
  refine j_iload_n C 23 1 dX5_side_23 rfl rfl ?_
  refine j_iald C 24 20 0 (f := Z 20) (wd_a20 ad ro c Z L) rfl (by first | omega | exact e_lt (by assumption)) (by decide) dX5_side_24 ?_
  refine j_eqi a3 ?_
  refine j_iload_n C 25 4 dX5_side_25 rfl rfl ?_
  refine j_iand C 26 dX5_side_26 ?_
  refine j_eqi (e_and fl y) ?_
  refine j_if_eq_n C 27 32 (by first | omega | exact e_lt (by assumption)) dX5_side_27 (by decide) (fun h27 => ?_) (fun h27 => ?_)
  · refine j_aload_n C 32 2 dX5_side_32 rfl rfl ?_
    refine j_get C 33 (ci := 5) hL rfl 2 (wd_o2 ad ro c Z L) 6 (by decide) f28 rfl (v := .ref (ad 20)) rfl dX5_side_33 ?_
    refine j_iload C 36 0 dX5_side_36 rfl ?_
    refine j_iald C 38 20 0 (f := Z 20) (wd_a20 ad ro c Z L) rfl (by first | omega | exact e_lt (by assumption)) (by decide) dX5_side_38 ?_
    refine j_eqi a4 ?_
    refine j_iload_n C 39 4 dX5_side_39 rfl rfl ?_
    refine j_iand C 40 dX5_side_40 ?_
    refine j_eqi (e_and fr y) ?_
    refine j_if_eq_n C 41 46 (by first | omega | exact e_lt (by assumption)) dX5_side_41 (by decide) (fun h41 => ?_) (fun h41 => ?_)
    · refine j_aload_n C 46 2 dX5_side_46 rfl rfl ?_
      refine j_get C 47 (ci := 5) hL rfl 2 (wd_o2 ad ro c Z L) 5 (by decide) f25 rfl (v := .ref (ad 19)) rfl dX5_side_47 ?_
      refine j_iload_n C 50 1 dX5_side_50 rfl rfl ?_
      refine j_zald C 51 19 1 (f := Z 19) (wd_a19 ad ro c Z L) rfl (by first | omega | exact e_lt (by assumption)) (by decide) dX5_side_51 ?_
      refine j_eqi a1 ?_
      refine j_if_eq_b C 52 57 dX5_side_52 (by decide) (fun h52 => ?_) (fun h52 => ?_)
      · refine j_aload_n C 57 2 dX5_side_57 rfl rfl ?_
        refine j_get C 58 (ci := 5) hL rfl 2 (wd_o2 ad ro c Z L) 5 (by decide) f25 rfl (v := .ref (ad 19)) rfl dX5_side_58 ?_
        refine j_iload C 61 0 dX5_side_61 rfl ?_
        refine j_zald C 63 19 1 (f := Z 19) (wd_a19 ad ro c Z L) rfl (by first | omega | exact e_lt (by assumption)) (by decide) dX5_side_63 ?_
        refine j_eqi a2 ?_
        refine j_if_eq_b C 64 71 dX5_side_64 (by decide) (fun h64 => ?_) (fun h64 => ?_)
        · refine j_iconst C 71 (v := -1) dX5_side_71 rfl ?_
          exact j_ireti C hr E (Nat.le_refl _) (Nat.le_refl _) rfl () (by rw [if_neg (fun z => z h27), if_neg (fun z => z h41), if_neg (by rw [h52]; decide), if_neg (by rw [h64]; decide)]) rfl dX5_side_72
        · refine j_iconst C 67 (v := nI 1) dX5_side_67 rfl ?_
          refine j_goto C 68 72 dX5_side_68 (by decide) ?_
          exact j_ireti C hr E (Nat.le_refl _) (Nat.le_refl _) rfl () (by rw [if_neg (fun z => z h27), if_neg (fun z => z h41), if_neg (by rw [h52]; decide), if_pos h64]; rfl) rfl dX5_side_72
      · refine j_iconst C 55 (v := nI 0) dX5_side_55 rfl ?_
        exact j_ireti C hr E (Nat.le_refl _) (Nat.le_refl _) rfl () (by rw [if_neg (fun z => z h27), if_neg (fun z => z h41), if_pos h52]; rfl) rfl dX5_side_56
    · refine j_iconst C 44 (v := nI 1) dX5_side_44 rfl ?_
      exact j_ireti C hr E (Nat.le_refl _) (Nat.le_refl _) rfl () (by rw [if_neg (fun z => z h27), if_pos h41]; rfl) rfl dX5_side_45
  · refine j_iconst C 30 (v := nI 0) dX5_side_30 rfl ?_
    exact j_ireti C hr E (Nat.le_refl _) (Nat.le_refl _) rfl () (by rw [if_pos h27]; rfl) rfl dX5_side_31
set_option maxHeartbeats 4000000 in
set_option maxRecDepth 100000 in
theorem c_X5_addToType (ll : Launch) (D : va_G) (ad ro : Nat → Nat) (c : Nat → ClassId) (Z : ZT) (L : LT) (t : Nat) (e : Bool) (f w : Nat) (n0 : Bool) (f0 w0 : Nat) (ht : t < 48) (a1 : Z 19 t = b2 n0) (a2 : Z 20 t = nI f0) (a3 : Z 21 t = nI w0) (hf : f < 256) (hw : w < 256) (hf0 : f0 < 256) (hw0 : w0 < 256) : cI (S := Unit) ll yX5_addToType vsX5_addToType ({ frames := 0, cells := 0, slots := 0, locals := 0 } : Room) D (tysG c) [.ref (ad 2), .int (nI (t)), .int (b2 (e)), .int (nI (f)), .int (nI (w))] (wd ad ro c Z L) (fun _ => wd ad ro c (upR (upR (upR Z 19 (upd (Z 19) t (b2 (n0 || e)))) 20 (upd (Z 20) t (nI (f0 ||| f)))) 21 (upd (Z 21) t (nI (w0 ||| w)))) L) (fun r _ => r = b2 (decide ((n0 || e, f0 ||| f, w0 ||| w) ≠ (n0, f0, w0)))) 0 0 := by
  refine cI_start (cc := cX5_addToType) (maxL := 6) RX5 rfl (by decide +kernel) rfl (Nat.le_of_ble_eq_true rfl) ?_
  intro κ hlκ C hr _ E hR hn
  subst hlκ
  have hL : ∀ w ∈ u_ws RX5 TX5 9, w.before (ja κ) (js κ) = true := fun w h => C.t w (mX5_addToType_wsX50 w h)
  have f25 : (Cond.fieldLink RX5 25 "GuardedGrammar$Typing" (TX5 5).2.1 (TX5 5).2.2.1).before (ja κ) (js κ) = true := C.t (.fieldLink RX5 25 "GuardedGrammar$Typing" "nullable" "[Z") (mX5_addToType_o _ (by decide +kernel))
  have f28 : (Cond.fieldLink RX5 28 "GuardedGrammar$Typing" (TX5 6).2.1 (TX5 6).2.2.1).before (ja κ) (js κ) = true := C.t (.fieldLink RX5 28 "GuardedGrammar$Typing" "firsts" "[I") (mX5_addToType_o _ (by decide +kernel))
  have f31 : (Cond.fieldLink RX5 31 "GuardedGrammar$Typing" (TX5 7).2.1 (TX5 7).2.2.1).before (ja κ) (js κ) = true := C.t (.fieldLink RX5 31 "GuardedGrammar$Typing" "afters" "[I") (mX5_addToType_o _ (by decide +kernel))
  show J D κ 0 0 0 [(0, .ref (ad 2)), (1, .int (nI (t))), (2, .int (b2 (e))), (3, .int (nI (f))), (4, .int (nI (w)))] [] (wd ad ro c Z L)
  have j45 : ∀ b : Bool, (b = true → (e = true ∧ n0 = false) ∨ ¬ (nI f &&& (nI f0 ^^^ (-1)) = 0) ∨ ¬ (nI w &&& (nI w0 ^^^ (-1)) = 0)) → (b = false → ¬ (e = true ∧ n0 = false) ∧ nI f &&& (nI f0 ^^^ (-1)) = 0 ∧ nI w &&& (nI w0 ^^^ (-1)) = 0) → J D κ 0 0 45 [(0, .ref (ad 2)), (1, .int (nI (t))), (2, .int (b2 (e))), (3, .int (nI (f))), (4, .int (nI (w)))] [.int (b2 b)] (wd ad ro c Z L) := by
    intro b hb1 hb2
    have hbb : b = decide ((n0 || e, f0 ||| f, w0 ||| w) ≠ (n0, f0, w0)) := by
      rw [e_andn hf hf0, e_andn hw hw0] at hb1 hb2
      cases b with
      | true =>
        symm
        rw [decide_eq_true_iff]
        intro q
        have q1 := congrArg (fun z => z.1) q
        have q2 := congrArg (fun z => z.2.1) q
        have q3 := congrArg (fun z => z.2.2) q
        dsimp only at q1 q2 q3
        rcases hb1 rfl with z | z | z
        · rw [z.1, z.2] at q1; cases q1
        · exact z q2
        · exact z q3
      | false =>
        symm
        rw [decide_eq_false_iff_not, Decidable.not_not]
        obtain ⟨z1, z2, z3⟩ := hb2 rfl
        rw [z2, z3]
        cases e <;> cases n0 <;> simp_all
    have j70 : ∀ g : Bool, g = (n0 || e) → J D κ 0 0 70 [(5, .int (b2 (b))), (0, .ref (ad 2)), (1, .int (nI (t))), (2, .int (b2 (e))), (3, .int (nI (f))), (4, .int (nI (w)))] [.int (b2 (g)), .int (nI (t)), .ref (ad 19)] (wd ad ro c Z L) := by
      intro g hg
      subst hg
      refine j_zast C 70 19 1 (f := Z 19) (wd_a19 ad ro c Z L) rfl (by omega) (by decide) (nb_b _) (wd_s19 ad ro c Z L (upd (Z 19) (t) (b2 (n0 || e)))) dX5_addToType_70 ?_
      refine j_aload_n C 71 1 dX5_addToType_71 rfl rfl ?_
      refine j_get C 72 (ci := 5) hL rfl 2 (wd_o2 ad ro c (upR Z 19 (upd (Z 19) (t) (b2 (n0 || e)))) L) 6 (by decide) f28 rfl (v := .ref (ad 20)) rfl dX5_addToType_72 ?_
      refine j_iload_n C 75 2 dX5_addToType_75 rfl rfl ?_
      refine j_dup2 C 76 dX5_addToType_76 rfl rfl ?_
      refine j_iald C 77 20 0 (f := Z 20) (wd_a20 ad ro c (upR Z 19 (upd (Z 19) (t) (b2 (n0 || e)))) L) rfl (by omega) (by decide) dX5_addToType_77 ?_
      refine j_eqi a2 ?_
      refine j_iload_n C 78 4 dX5_addToType_78 rfl rfl ?_
      refine j_ior C 79 dX5_addToType_79 ?_
      refine j_eqi (e_or f0 f) ?_
      refine j_iast C 80 20 0 (f := Z 20) (wd_a20 ad ro c (upR Z 19 (upd (Z 19) (t) (b2 (n0 || e)))) L) rfl (by omega) (by decide) (wd_s20 ad ro c (upR Z 19 (upd (Z 19) (t) (b2 (n0 || e)))) L (upd (Z 20) (t) (nI (f0 ||| f)))) dX5_addToType_80 ?_
      refine j_aload_n C 81 1 dX5_addToType_81 rfl rfl ?_
      refine j_get C 82 (ci := 5) hL rfl 2 (wd_o2 ad ro c (upR (upR Z 19 (upd (Z 19) (t) (b2 (n0 || e)))) 20 (upd (Z 20) (t) (nI (f0 ||| f)))) L) 7 (by decide) f31 rfl (v := .ref (ad 21)) rfl dX5_addToType_82 ?_
      refine j_iload_n C 85 2 dX5_addToType_85 rfl rfl ?_
      refine j_dup2 C 86 dX5_addToType_86 rfl rfl ?_
      refine j_iald C 87 21 0 (f := Z 21) (wd_a21 ad ro c (upR (upR Z 19 (upd (Z 19) (t) (b2 (n0 || e)))) 20 (upd (Z 20) (t) (nI (f0 ||| f)))) L) rfl (by omega) (by decide) dX5_addToType_87 ?_
      refine j_eqi a3 ?_
      refine j_iload C 88 5 dX5_addToType_88 rfl ?_
      refine j_ior C 90 dX5_addToType_90 ?_
      refine j_eqi (e_or w0 w) ?_
      refine j_iast C 91 21 0 (f := Z 21) (wd_a21 ad ro c (upR (upR Z 19 (upd (Z 19) (t) (b2 (n0 || e)))) 20 (upd (Z 20) (t) (nI (f0 ||| f)))) L) rfl (by omega) (by decide) (wd_s21 ad ro c (upR (upR Z 19 (upd (Z 19) (t) (b2 (n0 || e)))) 20 (upd (Z 20) (t) (nI (f0 ||| f)))) L (upd (Z 21) (t) (nI (w0 ||| w)))) dX5_addToType_91 ?_
      refine j_iload C 92 0 dX5_addToType_92 rfl ?_
      exact j_ireti C hr E (Nat.le_refl _) (Nat.le_refl _) (zr_b _) () (by rw [hbb]) rfl dX5_addToType_94
    refine j_istore C 45 (lv' := [(5, .int (b2 (b))), (0, .ref (ad 2)), (1, .int (nI (t))), (2, .int (b2 (e))), (3, .int (nI (f))), (4, .int (nI (w)))]) dX5_addToType_45 (by rw [hn]; decide) rfl ?_
    refine j_aload_n C 47 1 dX5_addToType_47 rfl rfl ?_
    refine j_get C 48 (ci := 5) hL rfl 2 (wd_o2 ad ro c Z L) 5 (by decide) f25 rfl (v := .ref (ad 19)) rfl dX5_addToType_48 ?_
    refine j_iload_n C 51 2 dX5_addToType_51 rfl rfl ?_
    refine j_aload_n C 52 1 dX5_addToType_52 rfl rfl ?_
    refine j_get C 53 (ci := 5) hL rfl 2 (wd_o2 ad ro c Z L) 5 (by decide) f25 rfl (v := .ref (ad 19)) rfl dX5_addToType_53 ?_
    refine j_iload_n C 56 2 dX5_addToType_56 rfl rfl ?_
    refine j_zald C 57 19 1 (f := Z 19) (wd_a19 ad ro c Z L) rfl (by omega) (by decide) dX5_addToType_57 ?_
    refine j_eqi a1 ?_
    refine j_if_ne_b C 58 65 dX5_addToType_58 (by decide) (fun h58 => ?_) (fun h58 => ?_)
    · refine j_iconst C 65 (v := nI 1) dX5_addToType_65 rfl ?_
      refine j_goto C 66 70 dX5_addToType_66 (by decide) ?_
      exact j70 true (by rw [h58, Bool.true_or])
    · refine j_iload_n C 61 3 dX5_addToType_61 rfl rfl ?_
      refine j_if_eq_b C 62 69 dX5_addToType_62 (by decide) (fun h62 => ?_) (fun h62 => ?_)
      · refine j_iconst C 69 (v := nI 0) dX5_addToType_69 rfl ?_
        exact j70 false (by rw [h58, h62]; rfl)
      · refine j_iconst C 65 (v := nI 1) dX5_addToType_65 rfl ?_
        refine j_goto C 66 70 dX5_addToType_66 (by decide) ?_
        exact j70 true (by rw [h58, h62]; rfl)
  refine j_iload_n C 0 2 dX5_addToType_0 rfl rfl ?_
  refine j_if_eq_b C 1 13 dX5_addToType_1 (by decide) (fun h1 => ?_) (fun h1 => ?_)
  · refine j_iload_n C 13 3 dX5_addToType_13 rfl rfl ?_
    refine j_aload_n C 14 0 dX5_addToType_14 rfl rfl ?_
    refine j_get C 15 (ci := 5) hL rfl 2 (wd_o2 ad ro c Z L) 6 (by decide) f28 rfl (v := .ref (ad 20)) rfl dX5_addToType_15 ?_
    refine j_iload_n C 18 1 dX5_addToType_18 rfl rfl ?_
    refine j_iald C 19 20 0 (f := Z 20) (wd_a20 ad ro c Z L) rfl (by omega) (by decide) dX5_addToType_19 ?_
    refine j_eqi a2 ?_
    refine j_iconst C 20 (v := -1) dX5_addToType_20 rfl ?_
    refine j_ixor C 21 dX5_addToType_21 ?_
    refine j_iand C 22 dX5_addToType_22 ?_
    refine j_if_ne C 23 40 dX5_addToType_23 (by decide) (fun h23 => ?_) (fun h23 => ?_)
    · refine j_iconst C 40 (v := nI 1) dX5_addToType_40 rfl ?_
      refine j_goto C 41 45 dX5_addToType_41 (by decide) ?_
      exact j45 true (fun _ => Or.inr (Or.inl h23)) (fun z => by cases z)
    · refine j_iload C 26 4 dX5_addToType_26 rfl ?_
      refine j_aload_n C 28 0 dX5_addToType_28 rfl rfl ?_
      refine j_get C 29 (ci := 5) hL rfl 2 (wd_o2 ad ro c Z L) 7 (by decide) f31 rfl (v := .ref (ad 21)) rfl dX5_addToType_29 ?_
      refine j_iload_n C 32 1 dX5_addToType_32 rfl rfl ?_
      refine j_iald C 33 21 0 (f := Z 21) (wd_a21 ad ro c Z L) rfl (by omega) (by decide) dX5_addToType_33 ?_
      refine j_eqi a3 ?_
      refine j_iconst C 34 (v := -1) dX5_addToType_34 rfl ?_
      refine j_ixor C 35 dX5_addToType_35 ?_
      refine j_iand C 36 dX5_addToType_36 ?_
      refine j_if_eq C 37 44 dX5_addToType_37 (by decide) (fun h37 => ?_) (fun h37 => ?_)
      · refine j_iconst C 44 (v := nI 0) dX5_addToType_44 rfl ?_
        exact j45 false (fun z => by cases z) (fun _ => ⟨(fun z => by rw [h1] at z; exact absurd z.1 (by decide)), h23, h37⟩)
      · refine j_iconst C 40 (v := nI 1) dX5_addToType_40 rfl ?_
        refine j_goto C 41 45 dX5_addToType_41 (by decide) ?_
        exact j45 true (fun _ => Or.inr (Or.inr h37)) (fun z => by cases z)
  · refine j_aload_n C 4 0 dX5_addToType_4 rfl rfl ?_
    refine j_get C 5 (ci := 5) hL rfl 2 (wd_o2 ad ro c Z L) 5 (by decide) f25 rfl (v := .ref (ad 19)) rfl dX5_addToType_5 ?_
    refine j_iload_n C 8 1 dX5_addToType_8 rfl rfl ?_
    refine j_zald C 9 19 1 (f := Z 19) (wd_a19 ad ro c Z L) rfl (by omega) (by decide) dX5_addToType_9 ?_
    refine j_eqi a1 ?_
    refine j_if_eq_b C 10 40 dX5_addToType_10 (by decide) (fun h10 => ?_) (fun h10 => ?_)
    · refine j_iconst C 40 (v := nI 1) dX5_addToType_40 rfl ?_
      refine j_goto C 41 45 dX5_addToType_41 (by decide) ?_
      exact j45 true (fun _ => Or.inl ⟨h1, h10⟩) (fun z => by cases z)
    · refine j_iload_n C 13 3 dX5_addToType_13 rfl rfl ?_
      refine j_aload_n C 14 0 dX5_addToType_14 rfl rfl ?_
      refine j_get C 15 (ci := 5) hL rfl 2 (wd_o2 ad ro c Z L) 6 (by decide) f28 rfl (v := .ref (ad 20)) rfl dX5_addToType_15 ?_
      refine j_iload_n C 18 1 dX5_addToType_18 rfl rfl ?_
      refine j_iald C 19 20 0 (f := Z 20) (wd_a20 ad ro c Z L) rfl (by omega) (by decide) dX5_addToType_19 ?_
      refine j_eqi a2 ?_
      refine j_iconst C 20 (v := -1) dX5_addToType_20 rfl ?_
      refine j_ixor C 21 dX5_addToType_21 ?_
      refine j_iand C 22 dX5_addToType_22 ?_
      refine j_if_ne C 23 40 dX5_addToType_23 (by decide) (fun h23 => ?_) (fun h23 => ?_)
      · refine j_iconst C 40 (v := nI 1) dX5_addToType_40 rfl ?_
        refine j_goto C 41 45 dX5_addToType_41 (by decide) ?_
        exact j45 true (fun _ => Or.inr (Or.inl h23)) (fun z => by cases z)
      · refine j_iload C 26 4 dX5_addToType_26 rfl ?_
        refine j_aload_n C 28 0 dX5_addToType_28 rfl rfl ?_
        refine j_get C 29 (ci := 5) hL rfl 2 (wd_o2 ad ro c Z L) 7 (by decide) f31 rfl (v := .ref (ad 21)) rfl dX5_addToType_29 ?_
        refine j_iload_n C 32 1 dX5_addToType_32 rfl rfl ?_
        refine j_iald C 33 21 0 (f := Z 21) (wd_a21 ad ro c Z L) rfl (by omega) (by decide) dX5_addToType_33 ?_
        refine j_eqi a3 ?_
        refine j_iconst C 34 (v := -1) dX5_addToType_34 rfl ?_
        refine j_ixor C 35 dX5_addToType_35 ?_
        refine j_iand C 36 dX5_addToType_36 ?_
        refine j_if_eq C 37 44 dX5_addToType_37 (by decide) (fun h37 => ?_) (fun h37 => ?_)
        · refine j_iconst C 44 (v := nI 0) dX5_addToType_44 rfl ?_
          exact j45 false (fun z => by cases z) (fun _ => ⟨(fun z => by rw [h10] at z; exact absurd z.2 (by decide)), h23, h37⟩)
        · refine j_iconst C 40 (v := nI 1) dX5_addToType_40 rfl ?_
          refine j_goto C 41 45 dX5_addToType_41 (by decide) ?_
          exact j45 true (fun _ => Or.inr (Or.inr h37)) (fun z => by cases z)
