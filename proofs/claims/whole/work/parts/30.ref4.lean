/-! contracts: the reference, reading -/
theorem e_shrb0 : ∀ (a : Fin 256) (x : Fin 8), (nI a.1 >>> (nI x.1 &&& 31)) &&& nI 1 = nI (if a.1.testBit x.1 then 1 else 0) := by decide +kernel
theorem e_shrb {a x : Nat} (ha : a < 256) (hx : x < 8) : (nI a >>> (nI x &&& 31)) &&& nI 1 = nI (if a.testBit x then 1 else 0) := e_shrb0 ⟨a, ha⟩ ⟨x, hx⟩
theorem g_bit8 {a x : Nat} (ha : a < 256) (hx : ¬ x < 8) : a.testBit x = false := Nat.testBit_lt_two_pow (Nat.lt_of_lt_of_le ha (show 2 ^ 8 ≤ 2 ^ x from Nat.pow_le_pow_right (by decide) (by omega)))
theorem g_ar_p1 {f : Nat → Int32} {σ : List Nat} {a : Nat} (h : g_ar f 0 σ.reverse) : g_ar (upd f σ.length (nI a)) 0 (a :: σ).reverse := by
  rw [List.reverse_cons]
  exact g_ar_push h (by simp)
theorem g_ar_p2 {f : Nat → Int32} {σ : List Nat} {a b : Nat} (h : g_ar f 0 σ.reverse) : g_ar (upd (upd f σ.length (nI b)) (σ.length + 1) (nI a)) 0 (a :: b :: σ).reverse := by
  rw [List.reverse_cons]
  exact g_ar_push (g_ar_p1 h) (by simp)
/-- what is yet to be read: the reference's places -/
def g_QM (Z : ZT) (σ : List Nat) (v : Nat) (l : List Nat) : Prop := Z 47 0 = nI σ.length ∧ g_ar (Z 15) 0 σ.reverse ∧ Z 46 0 = nI v ∧ Z 45 0 = nI l.length ∧ g_ar (Z 14) 0 l
set_option maxHeartbeats 4000000 in
set_option maxRecDepth 100000 in
theorem c_X8_choice (ll : Launch) (D : va_G) (bd : Nat → Nat) (c : Nat → ClassId) (Z : ZT) (L : LT) {n : Nat} {τ : Tb} {root : Nat} (S : TS) (X t : Nat) (x : Int32) (hwf : g_WF n τ) (hr2 : root < n) (hE : g_EM n τ Z) (hY : g_YM τ root S Z) (ht : t ∈ g_P τ root) (hk : g_kd τ t = 4) (hx : x = if X < 8 then nI X else -1) : cI (S := Unit) ll yX8_choice vsX8_choice ({ frames := 0, cells := 0, slots := 0, locals := 0 } : Room) D (tysG c) [.ref (bd 0), .int (nI (t)), .int (x)] (wm bd c Z L) (fun _ => wm bd c Z L) (fun r _ => r = if g_cho τ S X t = 2 then -1 else nI (g_cho τ S X t)) 0 0 := by
  refine cI_start (cc := cX8_choice) (maxL := 5) RX8 rfl (by decide +kernel) rfl (Nat.le_of_ble_eq_true rfl) ?_
  intro κ hlκ C hr _ E hR hn
  subst hlκ
  have hL : ∀ w ∈ u_ws RX8 TX8 28, w.before (ja κ) (js κ) = true := fun w h => C.t w (mX8_choice_wsX80 w h)
  have f16 : (Cond.fieldLink RX8 16 "GuardedGrammarModel" (TX8 4).2.1 (TX8 4).2.2.1).before (ja κ) (js κ) = true := C.t (.fieldLink RX8 16 "GuardedGrammarModel" "one" "[I") (mX8_choice_o _ (by decide +kernel))
  have f19 : (Cond.fieldLink RX8 19 "GuardedGrammarModel" (TX8 5).2.1 (TX8 5).2.2.1).before (ja κ) (js κ) = true := C.t (.fieldLink RX8 19 "GuardedGrammarModel" "two" "[I") (mX8_choice_o _ (by decide +kernel))
  have f32 : (Cond.fieldLink RX8 32 "GuardedGrammarModel" (TX8 9).2.1 (TX8 9).2.2.1).before (ja κ) (js κ) = true := C.t (.fieldLink RX8 32 "GuardedGrammarModel" "first" "[I") (mX8_choice_o _ (by decide +kernel))
  have f28 : (Cond.fieldLink RX8 28 "GuardedGrammarModel" (TX8 8).2.1 (TX8 8).2.2.1).before (ja κ) (js κ) = true := C.t (.fieldLink RX8 28 "GuardedGrammarModel" "nullable" "[Z") (mX8_choice_o _ (by decide +kernel))
  show J D κ 0 0 0 [(0, .ref (bd 0)), (1, .int (nI (t))), (2, .int (x))] [] (wm bd c Z L)
  have ht48 := hwf.1
  have htn := g_P_lt hwf hr2 ht
  have hlP := g_lfP hwf hr2 ht (by omega)
  have hrP := g_rtP hwf hr2 ht (by omega)
  have hl256 := (hY _ hlP.1).2.2.2.1
  have hr256 := (hY _ hrP.1).2.2.2.1
  by_cases hX : X < 8
  · rw [if_pos hX] at hx
    subst hx
    cases hb1 : (g_fi S (g_lf τ t)).testBit X with
    | true =>
      refine j_aload_n C 0 0 dX8_choice_0 rfl rfl ?_
      refine j_get C 1 (ci := 8) hL rfl 0 (wm_o0 bd c Z L) 4 (by decide) f16 rfl (v := .ref (bd 3)) rfl dX8_choice_1 ?_
      refine j_iload_n C 4 1 dX8_choice_4 rfl rfl ?_
      refine j_iald C 5 3 0 (f := Z 3) (wm_a3 bd c Z L) rfl (by omega) (by decide) dX8_choice_5 ?_
      refine j_eqi (g_EM_lf hE htn (by omega)) ?_
      refine j_istore_n C 6 (lv' := [(3, .int (nI (g_lf τ t))), (0, .ref (bd 0)), (1, .int (nI (t))), (2, .int (nI (X)))]) dX8_choice_6 rfl (by rw [hn]; decide) rfl ?_
      refine j_aload_n C 7 1 dX8_choice_7 rfl rfl ?_
      refine j_get C 8 (ci := 8) hL rfl 0 (wm_o0 bd c Z L) 5 (by decide) f19 rfl (v := .ref (bd 4)) rfl dX8_choice_8 ?_
      refine j_iload_n C 11 2 dX8_choice_11 rfl rfl ?_
      refine j_iald C 12 4 0 (f := Z 4) (wm_a4 bd c Z L) rfl (by omega) (by decide) dX8_choice_12 ?_
      refine j_eqi (g_EM_rt hE htn (by omega)) ?_
      refine j_istore C 13 (lv' := [(4, .int (nI (g_rt τ t))), (3, .int (nI (g_lf τ t))), (0, .ref (bd 0)), (1, .int (nI (t))), (2, .int (nI (X)))]) dX8_choice_13 (by rw [hn]; decide) rfl ?_
      refine j_iload_n C 15 4 dX8_choice_15 rfl rfl ?_
      refine j_if_lt_n C 16 35 (by omega) dX8_choice_16 (by decide) (fun h => absurd h (by omega)) (fun _ => ?_)
      refine j_aload_n C 19 2 dX8_choice_19 rfl rfl ?_
      refine j_get C 20 (ci := 8) hL rfl 0 (wm_o0 bd c Z L) 9 (by decide) f32 rfl (v := .ref (bd 8)) rfl dX8_choice_20 ?_
      refine j_iload_n C 23 1 dX8_choice_23 rfl rfl ?_
      refine j_iald C 24 8 0 (f := Z 8) (wm_a8 bd c Z L) rfl (by omega) (by decide) dX8_choice_24 ?_
      refine j_eqi (hY _ hlP.1).2.1 ?_
      refine j_iload_n C 25 4 dX8_choice_25 rfl rfl ?_
      refine j_ishr C 26 dX8_choice_26 ?_
      refine j_iconst C 27 (v := nI 1) dX8_choice_27 rfl ?_
      refine j_iand C 28 dX8_choice_28 ?_
      refine j_eqi (y := nI 1) ((e_shrb hl256 hX).trans (by rw [hb1]; first | done | rfl)) ?_
      refine j_iconst C 29 (v := nI 1) dX8_choice_29 rfl ?_
      refine j_icmp_ne_n C 30 35 (by omega) (by omega) dX8_choice_30 (by decide) (fun h => absurd h (by omega)) (fun _ => ?_)
      refine j_iconst C 33 (v := nI 0) dX8_choice_33 rfl ?_
      exact j_ireti C hr E (Nat.le_refl _) (Nat.le_refl _) rfl () (by have hcv : g_cho τ S X t = 0 := (by unfold g_cho; rw [if_pos hb1]); rw [hcv]; rfl) rfl dX8_choice_34
    | false =>
      cases hb2 : (g_fi S (g_rt τ t)).testBit X with
      | true =>
        refine j_aload_n C 0 0 dX8_choice_0 rfl rfl ?_
        refine j_get C 1 (ci := 8) hL rfl 0 (wm_o0 bd c Z L) 4 (by decide) f16 rfl (v := .ref (bd 3)) rfl dX8_choice_1 ?_
        refine j_iload_n C 4 1 dX8_choice_4 rfl rfl ?_
        refine j_iald C 5 3 0 (f := Z 3) (wm_a3 bd c Z L) rfl (by omega) (by decide) dX8_choice_5 ?_
        refine j_eqi (g_EM_lf hE htn (by omega)) ?_
        refine j_istore_n C 6 (lv' := [(3, .int (nI (g_lf τ t))), (0, .ref (bd 0)), (1, .int (nI (t))), (2, .int (nI (X)))]) dX8_choice_6 rfl (by rw [hn]; decide) rfl ?_
        refine j_aload_n C 7 1 dX8_choice_7 rfl rfl ?_
        refine j_get C 8 (ci := 8) hL rfl 0 (wm_o0 bd c Z L) 5 (by decide) f19 rfl (v := .ref (bd 4)) rfl dX8_choice_8 ?_
        refine j_iload_n C 11 2 dX8_choice_11 rfl rfl ?_
        refine j_iald C 12 4 0 (f := Z 4) (wm_a4 bd c Z L) rfl (by omega) (by decide) dX8_choice_12 ?_
        refine j_eqi (g_EM_rt hE htn (by omega)) ?_
        refine j_istore C 13 (lv' := [(4, .int (nI (g_rt τ t))), (3, .int (nI (g_lf τ t))), (0, .ref (bd 0)), (1, .int (nI (t))), (2, .int (nI (X)))]) dX8_choice_13 (by rw [hn]; decide) rfl ?_
        refine j_iload_n C 15 4 dX8_choice_15 rfl rfl ?_
        refine j_if_lt_n C 16 35 (by omega) dX8_choice_16 (by decide) (fun h => absurd h (by omega)) (fun _ => ?_)
        refine j_aload_n C 19 2 dX8_choice_19 rfl rfl ?_
        refine j_get C 20 (ci := 8) hL rfl 0 (wm_o0 bd c Z L) 9 (by decide) f32 rfl (v := .ref (bd 8)) rfl dX8_choice_20 ?_
        refine j_iload_n C 23 1 dX8_choice_23 rfl rfl ?_
        refine j_iald C 24 8 0 (f := Z 8) (wm_a8 bd c Z L) rfl (by omega) (by decide) dX8_choice_24 ?_
        refine j_eqi (hY _ hlP.1).2.1 ?_
        refine j_iload_n C 25 4 dX8_choice_25 rfl rfl ?_
        refine j_ishr C 26 dX8_choice_26 ?_
        refine j_iconst C 27 (v := nI 1) dX8_choice_27 rfl ?_
        refine j_iand C 28 dX8_choice_28 ?_
        refine j_eqi (y := nI 0) ((e_shrb hl256 hX).trans (by rw [hb1]; first | done | rfl)) ?_
        refine j_iconst C 29 (v := nI 1) dX8_choice_29 rfl ?_
        refine j_icmp_ne_n C 30 35 (by omega) (by omega) dX8_choice_30 (by decide) (fun _ => ?_) (fun h => absurd h (by omega))
        refine j_iload_n C 35 4 dX8_choice_35 rfl rfl ?_
        refine j_if_lt_n C 36 56 (by omega) dX8_choice_36 (by decide) (fun h => absurd h (by omega)) (fun _ => ?_)
        refine j_aload_n C 39 2 dX8_choice_39 rfl rfl ?_
        refine j_get C 40 (ci := 8) hL rfl 0 (wm_o0 bd c Z L) 9 (by decide) f32 rfl (v := .ref (bd 8)) rfl dX8_choice_40 ?_
        refine j_iload C 43 0 dX8_choice_43 rfl ?_
        refine j_iald C 45 8 0 (f := Z 8) (wm_a8 bd c Z L) rfl (by omega) (by decide) dX8_choice_45 ?_
        refine j_eqi (hY _ hrP.1).2.1 ?_
        refine j_iload_n C 46 4 dX8_choice_46 rfl rfl ?_
        refine j_ishr C 47 dX8_choice_47 ?_
        refine j_iconst C 48 (v := nI 1) dX8_choice_48 rfl ?_
        refine j_iand C 49 dX8_choice_49 ?_
        refine j_eqi (y := nI 1) ((e_shrb hr256 hX).trans (by rw [hb2]; first | done | rfl)) ?_
        refine j_iconst C 50 (v := nI 1) dX8_choice_50 rfl ?_
        refine j_icmp_ne_n C 51 56 (by omega) (by omega) dX8_choice_51 (by decide) (fun h => absurd h (by omega)) (fun _ => ?_)
        refine j_iconst C 54 (v := nI 1) dX8_choice_54 rfl ?_
        exact j_ireti C hr E (Nat.le_refl _) (Nat.le_refl _) rfl () (by have hcv : g_cho τ S X t = 1 := (by unfold g_cho; rw [if_neg (by rw [hb1]; decide), if_pos hb2]); rw [hcv]; rfl) rfl dX8_choice_55
      | false =>
        cases hnl : g_nu S (g_lf τ t) with
        | true =>
          refine j_aload_n C 0 0 dX8_choice_0 rfl rfl ?_
          refine j_get C 1 (ci := 8) hL rfl 0 (wm_o0 bd c Z L) 4 (by decide) f16 rfl (v := .ref (bd 3)) rfl dX8_choice_1 ?_
          refine j_iload_n C 4 1 dX8_choice_4 rfl rfl ?_
          refine j_iald C 5 3 0 (f := Z 3) (wm_a3 bd c Z L) rfl (by omega) (by decide) dX8_choice_5 ?_
          refine j_eqi (g_EM_lf hE htn (by omega)) ?_
          refine j_istore_n C 6 (lv' := [(3, .int (nI (g_lf τ t))), (0, .ref (bd 0)), (1, .int (nI (t))), (2, .int (nI (X)))]) dX8_choice_6 rfl (by rw [hn]; decide) rfl ?_
          refine j_aload_n C 7 1 dX8_choice_7 rfl rfl ?_
          refine j_get C 8 (ci := 8) hL rfl 0 (wm_o0 bd c Z L) 5 (by decide) f19 rfl (v := .ref (bd 4)) rfl dX8_choice_8 ?_
          refine j_iload_n C 11 2 dX8_choice_11 rfl rfl ?_
          refine j_iald C 12 4 0 (f := Z 4) (wm_a4 bd c Z L) rfl (by omega) (by decide) dX8_choice_12 ?_
          refine j_eqi (g_EM_rt hE htn (by omega)) ?_
          refine j_istore C 13 (lv' := [(4, .int (nI (g_rt τ t))), (3, .int (nI (g_lf τ t))), (0, .ref (bd 0)), (1, .int (nI (t))), (2, .int (nI (X)))]) dX8_choice_13 (by rw [hn]; decide) rfl ?_
          refine j_iload_n C 15 4 dX8_choice_15 rfl rfl ?_
          refine j_if_lt_n C 16 35 (by omega) dX8_choice_16 (by decide) (fun h => absurd h (by omega)) (fun _ => ?_)
          refine j_aload_n C 19 2 dX8_choice_19 rfl rfl ?_
          refine j_get C 20 (ci := 8) hL rfl 0 (wm_o0 bd c Z L) 9 (by decide) f32 rfl (v := .ref (bd 8)) rfl dX8_choice_20 ?_
          refine j_iload_n C 23 1 dX8_choice_23 rfl rfl ?_
          refine j_iald C 24 8 0 (f := Z 8) (wm_a8 bd c Z L) rfl (by omega) (by decide) dX8_choice_24 ?_
          refine j_eqi (hY _ hlP.1).2.1 ?_
          refine j_iload_n C 25 4 dX8_choice_25 rfl rfl ?_
          refine j_ishr C 26 dX8_choice_26 ?_
          refine j_iconst C 27 (v := nI 1) dX8_choice_27 rfl ?_
          refine j_iand C 28 dX8_choice_28 ?_
          refine j_eqi (y := nI 0) ((e_shrb hl256 hX).trans (by rw [hb1]; first | done | rfl)) ?_
          refine j_iconst C 29 (v := nI 1) dX8_choice_29 rfl ?_
          refine j_icmp_ne_n C 30 35 (by omega) (by omega) dX8_choice_30 (by decide) (fun _ => ?_) (fun h => absurd h (by omega))
          refine j_iload_n C 35 4 dX8_choice_35 rfl rfl ?_
          refine j_if_lt_n C 36 56 (by omega) dX8_choice_36 (by decide) (fun h => absurd h (by omega)) (fun _ => ?_)
          refine j_aload_n C 39 2 dX8_choice_39 rfl rfl ?_
          refine j_get C 40 (ci := 8) hL rfl 0 (wm_o0 bd c Z L) 9 (by decide) f32 rfl (v := .ref (bd 8)) rfl dX8_choice_40 ?_
          refine j_iload C 43 0 dX8_choice_43 rfl ?_
          refine j_iald C 45 8 0 (f := Z 8) (wm_a8 bd c Z L) rfl (by omega) (by decide) dX8_choice_45 ?_
          refine j_eqi (hY _ hrP.1).2.1 ?_
          refine j_iload_n C 46 4 dX8_choice_46 rfl rfl ?_
          refine j_ishr C 47 dX8_choice_47 ?_
          refine j_iconst C 48 (v := nI 1) dX8_choice_48 rfl ?_
          refine j_iand C 49 dX8_choice_49 ?_
          refine j_eqi (y := nI 0) ((e_shrb hr256 hX).trans (by rw [hb2]; first | done | rfl)) ?_
          refine j_iconst C 50 (v := nI 1) dX8_choice_50 rfl ?_
          refine j_icmp_ne_n C 51 56 (by omega) (by omega) dX8_choice_51 (by decide) (fun _ => ?_) (fun h => absurd h (by omega))
          refine j_aload_n C 56 2 dX8_choice_56 rfl rfl ?_
          refine j_get C 57 (ci := 8) hL rfl 0 (wm_o0 bd c Z L) 8 (by decide) f28 rfl (v := .ref (bd 7)) rfl dX8_choice_57 ?_
          refine j_iload_n C 60 1 dX8_choice_60 rfl rfl ?_
          refine j_zald C 61 7 1 (f := Z 7) (wm_a7 bd c Z L) rfl (by omega) (by decide) dX8_choice_61 ?_
          refine j_eqi ((hY _ hlP.1).1.trans (by rw [hnl])) ?_
          refine j_if_eq_b C 62 (b := true) 69 dX8_choice_62 (by decide) (fun h => by cases h) (fun _ => ?_)
          refine j_iconst C 65 (v := nI 0) dX8_choice_65 rfl ?_
          refine j_goto C 66 84 dX8_choice_66 (by decide) ?_
          exact j_ireti C hr E (Nat.le_refl _) (Nat.le_refl _) rfl () (by have hcv : g_cho τ S X t = 0 := (by unfold g_cho; rw [if_neg (by rw [hb1]; decide), if_neg (by rw [hb2]; decide), if_pos hnl]); rw [hcv]; rfl) rfl dX8_choice_84
        | false =>
          cases hnr : g_nu S (g_rt τ t) with
          | true =>
            refine j_aload_n C 0 0 dX8_choice_0 rfl rfl ?_
            refine j_get C 1 (ci := 8) hL rfl 0 (wm_o0 bd c Z L) 4 (by decide) f16 rfl (v := .ref (bd 3)) rfl dX8_choice_1 ?_
            refine j_iload_n C 4 1 dX8_choice_4 rfl rfl ?_
            refine j_iald C 5 3 0 (f := Z 3) (wm_a3 bd c Z L) rfl (by omega) (by decide) dX8_choice_5 ?_
            refine j_eqi (g_EM_lf hE htn (by omega)) ?_
            refine j_istore_n C 6 (lv' := [(3, .int (nI (g_lf τ t))), (0, .ref (bd 0)), (1, .int (nI (t))), (2, .int (nI (X)))]) dX8_choice_6 rfl (by rw [hn]; decide) rfl ?_
            refine j_aload_n C 7 1 dX8_choice_7 rfl rfl ?_
            refine j_get C 8 (ci := 8) hL rfl 0 (wm_o0 bd c Z L) 5 (by decide) f19 rfl (v := .ref (bd 4)) rfl dX8_choice_8 ?_
            refine j_iload_n C 11 2 dX8_choice_11 rfl rfl ?_
            refine j_iald C 12 4 0 (f := Z 4) (wm_a4 bd c Z L) rfl (by omega) (by decide) dX8_choice_12 ?_
            refine j_eqi (g_EM_rt hE htn (by omega)) ?_
            refine j_istore C 13 (lv' := [(4, .int (nI (g_rt τ t))), (3, .int (nI (g_lf τ t))), (0, .ref (bd 0)), (1, .int (nI (t))), (2, .int (nI (X)))]) dX8_choice_13 (by rw [hn]; decide) rfl ?_
            refine j_iload_n C 15 4 dX8_choice_15 rfl rfl ?_
            refine j_if_lt_n C 16 35 (by omega) dX8_choice_16 (by decide) (fun h => absurd h (by omega)) (fun _ => ?_)
            refine j_aload_n C 19 2 dX8_choice_19 rfl rfl ?_
            refine j_get C 20 (ci := 8) hL rfl 0 (wm_o0 bd c Z L) 9 (by decide) f32 rfl (v := .ref (bd 8)) rfl dX8_choice_20 ?_
            refine j_iload_n C 23 1 dX8_choice_23 rfl rfl ?_
            refine j_iald C 24 8 0 (f := Z 8) (wm_a8 bd c Z L) rfl (by omega) (by decide) dX8_choice_24 ?_
            refine j_eqi (hY _ hlP.1).2.1 ?_
            refine j_iload_n C 25 4 dX8_choice_25 rfl rfl ?_
            refine j_ishr C 26 dX8_choice_26 ?_
            refine j_iconst C 27 (v := nI 1) dX8_choice_27 rfl ?_
            refine j_iand C 28 dX8_choice_28 ?_
            refine j_eqi (y := nI 0) ((e_shrb hl256 hX).trans (by rw [hb1]; first | done | rfl)) ?_
            refine j_iconst C 29 (v := nI 1) dX8_choice_29 rfl ?_
            refine j_icmp_ne_n C 30 35 (by omega) (by omega) dX8_choice_30 (by decide) (fun _ => ?_) (fun h => absurd h (by omega))
            refine j_iload_n C 35 4 dX8_choice_35 rfl rfl ?_
            refine j_if_lt_n C 36 56 (by omega) dX8_choice_36 (by decide) (fun h => absurd h (by omega)) (fun _ => ?_)
            refine j_aload_n C 39 2 dX8_choice_39 rfl rfl ?_
            refine j_get C 40 (ci := 8) hL rfl 0 (wm_o0 bd c Z L) 9 (by decide) f32 rfl (v := .ref (bd 8)) rfl dX8_choice_40 ?_
            refine j_iload C 43 0 dX8_choice_43 rfl ?_
            refine j_iald C 45 8 0 (f := Z 8) (wm_a8 bd c Z L) rfl (by omega) (by decide) dX8_choice_45 ?_
            refine j_eqi (hY _ hrP.1).2.1 ?_
            refine j_iload_n C 46 4 dX8_choice_46 rfl rfl ?_
            refine j_ishr C 47 dX8_choice_47 ?_
            refine j_iconst C 48 (v := nI 1) dX8_choice_48 rfl ?_
            refine j_iand C 49 dX8_choice_49 ?_
            refine j_eqi (y := nI 0) ((e_shrb hr256 hX).trans (by rw [hb2]; first | done | rfl)) ?_
            refine j_iconst C 50 (v := nI 1) dX8_choice_50 rfl ?_
            refine j_icmp_ne_n C 51 56 (by omega) (by omega) dX8_choice_51 (by decide) (fun _ => ?_) (fun h => absurd h (by omega))
            refine j_aload_n C 56 2 dX8_choice_56 rfl rfl ?_
            refine j_get C 57 (ci := 8) hL rfl 0 (wm_o0 bd c Z L) 8 (by decide) f28 rfl (v := .ref (bd 7)) rfl dX8_choice_57 ?_
            refine j_iload_n C 60 1 dX8_choice_60 rfl rfl ?_
            refine j_zald C 61 7 1 (f := Z 7) (wm_a7 bd c Z L) rfl (by omega) (by decide) dX8_choice_61 ?_
            refine j_eqi ((hY _ hlP.1).1.trans (by rw [hnl])) ?_
            refine j_if_eq_b C 62 (b := false) 69 dX8_choice_62 (by decide) (fun _ => ?_) (fun h => by cases h)
            refine j_aload_n C 69 2 dX8_choice_69 rfl rfl ?_
            refine j_get C 70 (ci := 8) hL rfl 0 (wm_o0 bd c Z L) 8 (by decide) f28 rfl (v := .ref (bd 7)) rfl dX8_choice_70 ?_
            refine j_iload C 73 0 dX8_choice_73 rfl ?_
            refine j_zald C 75 7 1 (f := Z 7) (wm_a7 bd c Z L) rfl (by omega) (by decide) dX8_choice_75 ?_
            refine j_eqi ((hY _ hrP.1).1.trans (by rw [hnr])) ?_
            refine j_if_eq_b C 76 (b := true) 83 dX8_choice_76 (by decide) (fun h => by cases h) (fun _ => ?_)
            refine j_iconst C 79 (v := nI 1) dX8_choice_79 rfl ?_
            refine j_goto C 80 84 dX8_choice_80 (by decide) ?_
            exact j_ireti C hr E (Nat.le_refl _) (Nat.le_refl _) rfl () (by have hcv : g_cho τ S X t = 1 := (by unfold g_cho; rw [if_neg (by rw [hb1]; decide), if_neg (by rw [hb2]; decide), if_neg (by rw [hnl]; decide), if_pos hnr]); rw [hcv]; rfl) rfl dX8_choice_84
          | false =>
            refine j_aload_n C 0 0 dX8_choice_0 rfl rfl ?_
            refine j_get C 1 (ci := 8) hL rfl 0 (wm_o0 bd c Z L) 4 (by decide) f16 rfl (v := .ref (bd 3)) rfl dX8_choice_1 ?_
            refine j_iload_n C 4 1 dX8_choice_4 rfl rfl ?_
            refine j_iald C 5 3 0 (f := Z 3) (wm_a3 bd c Z L) rfl (by omega) (by decide) dX8_choice_5 ?_
            refine j_eqi (g_EM_lf hE htn (by omega)) ?_
            refine j_istore_n C 6 (lv' := [(3, .int (nI (g_lf τ t))), (0, .ref (bd 0)), (1, .int (nI (t))), (2, .int (nI (X)))]) dX8_choice_6 rfl (by rw [hn]; decide) rfl ?_
            refine j_aload_n C 7 1 dX8_choice_7 rfl rfl ?_
            refine j_get C 8 (ci := 8) hL rfl 0 (wm_o0 bd c Z L) 5 (by decide) f19 rfl (v := .ref (bd 4)) rfl dX8_choice_8 ?_
            refine j_iload_n C 11 2 dX8_choice_11 rfl rfl ?_
            refine j_iald C 12 4 0 (f := Z 4) (wm_a4 bd c Z L) rfl (by omega) (by decide) dX8_choice_12 ?_
            refine j_eqi (g_EM_rt hE htn (by omega)) ?_
            refine j_istore C 13 (lv' := [(4, .int (nI (g_rt τ t))), (3, .int (nI (g_lf τ t))), (0, .ref (bd 0)), (1, .int (nI (t))), (2, .int (nI (X)))]) dX8_choice_13 (by rw [hn]; decide) rfl ?_
            refine j_iload_n C 15 4 dX8_choice_15 rfl rfl ?_
            refine j_if_lt_n C 16 35 (by omega) dX8_choice_16 (by decide) (fun h => absurd h (by omega)) (fun _ => ?_)
            refine j_aload_n C 19 2 dX8_choice_19 rfl rfl ?_
            refine j_get C 20 (ci := 8) hL rfl 0 (wm_o0 bd c Z L) 9 (by decide) f32 rfl (v := .ref (bd 8)) rfl dX8_choice_20 ?_
            refine j_iload_n C 23 1 dX8_choice_23 rfl rfl ?_
            refine j_iald C 24 8 0 (f := Z 8) (wm_a8 bd c Z L) rfl (by omega) (by decide) dX8_choice_24 ?_
            refine j_eqi (hY _ hlP.1).2.1 ?_
            refine j_iload_n C 25 4 dX8_choice_25 rfl rfl ?_
            refine j_ishr C 26 dX8_choice_26 ?_
            refine j_iconst C 27 (v := nI 1) dX8_choice_27 rfl ?_
            refine j_iand C 28 dX8_choice_28 ?_
            refine j_eqi (y := nI 0) ((e_shrb hl256 hX).trans (by rw [hb1]; first | done | rfl)) ?_
            refine j_iconst C 29 (v := nI 1) dX8_choice_29 rfl ?_
            refine j_icmp_ne_n C 30 35 (by omega) (by omega) dX8_choice_30 (by decide) (fun _ => ?_) (fun h => absurd h (by omega))
            refine j_iload_n C 35 4 dX8_choice_35 rfl rfl ?_
            refine j_if_lt_n C 36 56 (by omega) dX8_choice_36 (by decide) (fun h => absurd h (by omega)) (fun _ => ?_)
            refine j_aload_n C 39 2 dX8_choice_39 rfl rfl ?_
            refine j_get C 40 (ci := 8) hL rfl 0 (wm_o0 bd c Z L) 9 (by decide) f32 rfl (v := .ref (bd 8)) rfl dX8_choice_40 ?_
            refine j_iload C 43 0 dX8_choice_43 rfl ?_
            refine j_iald C 45 8 0 (f := Z 8) (wm_a8 bd c Z L) rfl (by omega) (by decide) dX8_choice_45 ?_
            refine j_eqi (hY _ hrP.1).2.1 ?_
            refine j_iload_n C 46 4 dX8_choice_46 rfl rfl ?_
            refine j_ishr C 47 dX8_choice_47 ?_
            refine j_iconst C 48 (v := nI 1) dX8_choice_48 rfl ?_
            refine j_iand C 49 dX8_choice_49 ?_
            refine j_eqi (y := nI 0) ((e_shrb hr256 hX).trans (by rw [hb2]; first | done | rfl)) ?_
            refine j_iconst C 50 (v := nI 1) dX8_choice_50 rfl ?_
            refine j_icmp_ne_n C 51 56 (by omega) (by omega) dX8_choice_51 (by decide) (fun _ => ?_) (fun h => absurd h (by omega))
            refine j_aload_n C 56 2 dX8_choice_56 rfl rfl ?_
            refine j_get C 57 (ci := 8) hL rfl 0 (wm_o0 bd c Z L) 8 (by decide) f28 rfl (v := .ref (bd 7)) rfl dX8_choice_57 ?_
            refine j_iload_n C 60 1 dX8_choice_60 rfl rfl ?_
            refine j_zald C 61 7 1 (f := Z 7) (wm_a7 bd c Z L) rfl (by omega) (by decide) dX8_choice_61 ?_
            refine j_eqi ((hY _ hlP.1).1.trans (by rw [hnl])) ?_
            refine j_if_eq_b C 62 (b := false) 69 dX8_choice_62 (by decide) (fun _ => ?_) (fun h => by cases h)
            refine j_aload_n C 69 2 dX8_choice_69 rfl rfl ?_
            refine j_get C 70 (ci := 8) hL rfl 0 (wm_o0 bd c Z L) 8 (by decide) f28 rfl (v := .ref (bd 7)) rfl dX8_choice_70 ?_
            refine j_iload C 73 0 dX8_choice_73 rfl ?_
            refine j_zald C 75 7 1 (f := Z 7) (wm_a7 bd c Z L) rfl (by omega) (by decide) dX8_choice_75 ?_
            refine j_eqi ((hY _ hrP.1).1.trans (by rw [hnr])) ?_
            refine j_if_eq_b C 76 (b := false) 83 dX8_choice_76 (by decide) (fun _ => ?_) (fun h => by cases h)
            refine j_iconst C 83 (v := -1) dX8_choice_83 rfl ?_
            exact j_ireti C hr E (Nat.le_refl _) (Nat.le_refl _) rfl () (by have hcv : g_cho τ S X t = 2 := (by unfold g_cho; rw [if_neg (by rw [hb1]; decide), if_neg (by rw [hb2]; decide), if_neg (by rw [hnl]; decide), if_neg (by rw [hnr]; decide)]); rw [hcv]; rfl) rfl dX8_choice_84
  · rw [if_neg hX] at hx
    subst hx
    have hb1 := g_bit8 hl256 hX
    have hb2 := g_bit8 hr256 hX
    cases hnl : g_nu S (g_lf τ t) with
    | true =>
      refine j_aload_n C 0 0 dX8_choice_0 rfl rfl ?_
      refine j_get C 1 (ci := 8) hL rfl 0 (wm_o0 bd c Z L) 4 (by decide) f16 rfl (v := .ref (bd 3)) rfl dX8_choice_1 ?_
      refine j_iload_n C 4 1 dX8_choice_4 rfl rfl ?_
      refine j_iald C 5 3 0 (f := Z 3) (wm_a3 bd c Z L) rfl (by omega) (by decide) dX8_choice_5 ?_
      refine j_eqi (g_EM_lf hE htn (by omega)) ?_
      refine j_istore_n C 6 (lv' := [(3, .int (nI (g_lf τ t))), (0, .ref (bd 0)), (1, .int (nI (t))), (2, .int (-1))]) dX8_choice_6 rfl (by rw [hn]; decide) rfl ?_
      refine j_aload_n C 7 1 dX8_choice_7 rfl rfl ?_
      refine j_get C 8 (ci := 8) hL rfl 0 (wm_o0 bd c Z L) 5 (by decide) f19 rfl (v := .ref (bd 4)) rfl dX8_choice_8 ?_
      refine j_iload_n C 11 2 dX8_choice_11 rfl rfl ?_
      refine j_iald C 12 4 0 (f := Z 4) (wm_a4 bd c Z L) rfl (by omega) (by decide) dX8_choice_12 ?_
      refine j_eqi (g_EM_rt hE htn (by omega)) ?_
      refine j_istore C 13 (lv' := [(4, .int (nI (g_rt τ t))), (3, .int (nI (g_lf τ t))), (0, .ref (bd 0)), (1, .int (nI (t))), (2, .int (-1))]) dX8_choice_13 (by rw [hn]; decide) rfl ?_
      refine j_iload_n C 15 4 dX8_choice_15 rfl rfl ?_
      refine j_if_lt C 16 35 dX8_choice_16 (by decide) (fun _ => ?_) (fun h => absurd (by decide) h)
      refine j_iload_n C 35 4 dX8_choice_35 rfl rfl ?_
      refine j_if_lt C 36 56 dX8_choice_36 (by decide) (fun _ => ?_) (fun h => absurd (by decide) h)
      refine j_aload_n C 56 2 dX8_choice_56 rfl rfl ?_
      refine j_get C 57 (ci := 8) hL rfl 0 (wm_o0 bd c Z L) 8 (by decide) f28 rfl (v := .ref (bd 7)) rfl dX8_choice_57 ?_
      refine j_iload_n C 60 1 dX8_choice_60 rfl rfl ?_
      refine j_zald C 61 7 1 (f := Z 7) (wm_a7 bd c Z L) rfl (by omega) (by decide) dX8_choice_61 ?_
      refine j_eqi ((hY _ hlP.1).1.trans (by rw [hnl])) ?_
      refine j_if_eq_b C 62 (b := true) 69 dX8_choice_62 (by decide) (fun h => by cases h) (fun _ => ?_)
      refine j_iconst C 65 (v := nI 0) dX8_choice_65 rfl ?_
      refine j_goto C 66 84 dX8_choice_66 (by decide) ?_
      exact j_ireti C hr E (Nat.le_refl _) (Nat.le_refl _) rfl () (by have hcv : g_cho τ S X t = 0 := (by unfold g_cho; rw [if_neg (by rw [hb1]; decide), if_neg (by rw [hb2]; decide), if_pos hnl]); rw [hcv]; rfl) rfl dX8_choice_84
    | false =>
      cases hnr : g_nu S (g_rt τ t) with
      | true =>
        refine j_aload_n C 0 0 dX8_choice_0 rfl rfl ?_
        refine j_get C 1 (ci := 8) hL rfl 0 (wm_o0 bd c Z L) 4 (by decide) f16 rfl (v := .ref (bd 3)) rfl dX8_choice_1 ?_
        refine j_iload_n C 4 1 dX8_choice_4 rfl rfl ?_
        refine j_iald C 5 3 0 (f := Z 3) (wm_a3 bd c Z L) rfl (by omega) (by decide) dX8_choice_5 ?_
        refine j_eqi (g_EM_lf hE htn (by omega)) ?_
        refine j_istore_n C 6 (lv' := [(3, .int (nI (g_lf τ t))), (0, .ref (bd 0)), (1, .int (nI (t))), (2, .int (-1))]) dX8_choice_6 rfl (by rw [hn]; decide) rfl ?_
        refine j_aload_n C 7 1 dX8_choice_7 rfl rfl ?_
        refine j_get C 8 (ci := 8) hL rfl 0 (wm_o0 bd c Z L) 5 (by decide) f19 rfl (v := .ref (bd 4)) rfl dX8_choice_8 ?_
        refine j_iload_n C 11 2 dX8_choice_11 rfl rfl ?_
        refine j_iald C 12 4 0 (f := Z 4) (wm_a4 bd c Z L) rfl (by omega) (by decide) dX8_choice_12 ?_
        refine j_eqi (g_EM_rt hE htn (by omega)) ?_
        refine j_istore C 13 (lv' := [(4, .int (nI (g_rt τ t))), (3, .int (nI (g_lf τ t))), (0, .ref (bd 0)), (1, .int (nI (t))), (2, .int (-1))]) dX8_choice_13 (by rw [hn]; decide) rfl ?_
        refine j_iload_n C 15 4 dX8_choice_15 rfl rfl ?_
        refine j_if_lt C 16 35 dX8_choice_16 (by decide) (fun _ => ?_) (fun h => absurd (by decide) h)
        refine j_iload_n C 35 4 dX8_choice_35 rfl rfl ?_
        refine j_if_lt C 36 56 dX8_choice_36 (by decide) (fun _ => ?_) (fun h => absurd (by decide) h)
        refine j_aload_n C 56 2 dX8_choice_56 rfl rfl ?_
        refine j_get C 57 (ci := 8) hL rfl 0 (wm_o0 bd c Z L) 8 (by decide) f28 rfl (v := .ref (bd 7)) rfl dX8_choice_57 ?_
        refine j_iload_n C 60 1 dX8_choice_60 rfl rfl ?_
        refine j_zald C 61 7 1 (f := Z 7) (wm_a7 bd c Z L) rfl (by omega) (by decide) dX8_choice_61 ?_
        refine j_eqi ((hY _ hlP.1).1.trans (by rw [hnl])) ?_
        refine j_if_eq_b C 62 (b := false) 69 dX8_choice_62 (by decide) (fun _ => ?_) (fun h => by cases h)
        refine j_aload_n C 69 2 dX8_choice_69 rfl rfl ?_
        refine j_get C 70 (ci := 8) hL rfl 0 (wm_o0 bd c Z L) 8 (by decide) f28 rfl (v := .ref (bd 7)) rfl dX8_choice_70 ?_
        refine j_iload C 73 0 dX8_choice_73 rfl ?_
        refine j_zald C 75 7 1 (f := Z 7) (wm_a7 bd c Z L) rfl (by omega) (by decide) dX8_choice_75 ?_
        refine j_eqi ((hY _ hrP.1).1.trans (by rw [hnr])) ?_
        refine j_if_eq_b C 76 (b := true) 83 dX8_choice_76 (by decide) (fun h => by cases h) (fun _ => ?_)
        refine j_iconst C 79 (v := nI 1) dX8_choice_79 rfl ?_
        refine j_goto C 80 84 dX8_choice_80 (by decide) ?_
        exact j_ireti C hr E (Nat.le_refl _) (Nat.le_refl _) rfl () (by have hcv : g_cho τ S X t = 1 := (by unfold g_cho; rw [if_neg (by rw [hb1]; decide), if_neg (by rw [hb2]; decide), if_neg (by rw [hnl]; decide), if_pos hnr]); rw [hcv]; rfl) rfl dX8_choice_84
      | false =>
        refine j_aload_n C 0 0 dX8_choice_0 rfl rfl ?_
        refine j_get C 1 (ci := 8) hL rfl 0 (wm_o0 bd c Z L) 4 (by decide) f16 rfl (v := .ref (bd 3)) rfl dX8_choice_1 ?_
        refine j_iload_n C 4 1 dX8_choice_4 rfl rfl ?_
        refine j_iald C 5 3 0 (f := Z 3) (wm_a3 bd c Z L) rfl (by omega) (by decide) dX8_choice_5 ?_
        refine j_eqi (g_EM_lf hE htn (by omega)) ?_
        refine j_istore_n C 6 (lv' := [(3, .int (nI (g_lf τ t))), (0, .ref (bd 0)), (1, .int (nI (t))), (2, .int (-1))]) dX8_choice_6 rfl (by rw [hn]; decide) rfl ?_
        refine j_aload_n C 7 1 dX8_choice_7 rfl rfl ?_
        refine j_get C 8 (ci := 8) hL rfl 0 (wm_o0 bd c Z L) 5 (by decide) f19 rfl (v := .ref (bd 4)) rfl dX8_choice_8 ?_
        refine j_iload_n C 11 2 dX8_choice_11 rfl rfl ?_
        refine j_iald C 12 4 0 (f := Z 4) (wm_a4 bd c Z L) rfl (by omega) (by decide) dX8_choice_12 ?_
        refine j_eqi (g_EM_rt hE htn (by omega)) ?_
        refine j_istore C 13 (lv' := [(4, .int (nI (g_rt τ t))), (3, .int (nI (g_lf τ t))), (0, .ref (bd 0)), (1, .int (nI (t))), (2, .int (-1))]) dX8_choice_13 (by rw [hn]; decide) rfl ?_
        refine j_iload_n C 15 4 dX8_choice_15 rfl rfl ?_
        refine j_if_lt C 16 35 dX8_choice_16 (by decide) (fun _ => ?_) (fun h => absurd (by decide) h)
        refine j_iload_n C 35 4 dX8_choice_35 rfl rfl ?_
        refine j_if_lt C 36 56 dX8_choice_36 (by decide) (fun _ => ?_) (fun h => absurd (by decide) h)
        refine j_aload_n C 56 2 dX8_choice_56 rfl rfl ?_
        refine j_get C 57 (ci := 8) hL rfl 0 (wm_o0 bd c Z L) 8 (by decide) f28 rfl (v := .ref (bd 7)) rfl dX8_choice_57 ?_
        refine j_iload_n C 60 1 dX8_choice_60 rfl rfl ?_
        refine j_zald C 61 7 1 (f := Z 7) (wm_a7 bd c Z L) rfl (by omega) (by decide) dX8_choice_61 ?_
        refine j_eqi ((hY _ hlP.1).1.trans (by rw [hnl])) ?_
        refine j_if_eq_b C 62 (b := false) 69 dX8_choice_62 (by decide) (fun _ => ?_) (fun h => by cases h)
        refine j_aload_n C 69 2 dX8_choice_69 rfl rfl ?_
        refine j_get C 70 (ci := 8) hL rfl 0 (wm_o0 bd c Z L) 8 (by decide) f28 rfl (v := .ref (bd 7)) rfl dX8_choice_70 ?_
        refine j_iload C 73 0 dX8_choice_73 rfl ?_
        refine j_zald C 75 7 1 (f := Z 7) (wm_a7 bd c Z L) rfl (by omega) (by decide) dX8_choice_75 ?_
        refine j_eqi ((hY _ hrP.1).1.trans (by rw [hnr])) ?_
        refine j_if_eq_b C 76 (b := false) 83 dX8_choice_76 (by decide) (fun _ => ?_) (fun h => by cases h)
        refine j_iconst C 83 (v := -1) dX8_choice_83 rfl ?_
        exact j_ireti C hr E (Nat.le_refl _) (Nat.le_refl _) rfl () (by have hcv : g_cho τ S X t = 2 := (by unfold g_cho; rw [if_neg (by rw [hb1]; decide), if_neg (by rw [hb2]; decide), if_neg (by rw [hnl]; decide), if_neg (by rw [hnr]; decide)]); rw [hcv]; rfl) rfl dX8_choice_84
set_option maxHeartbeats 4000000 in
set_option maxRecDepth 100000 in
theorem c_X8_beginAt (ll : Launch) (D : va_G) (bd : Nat → Nat) (c : Nat → ClassId) (Z : ZT) (L : LT) (root : Nat)  : cV (S := Unit) ll yX8_beginAt vsX8_beginAt ({ frames := 0, cells := 0, slots := 0, locals := 0 } : Room) D (tysG c) [.ref (bd 0), .int (nI (root))] (wm bd c Z L) (fun _ => wm bd c (upR (upR (upR (upR Z 15 (upd (Z 15) 0 (nI root))) 47 (fun _ => nI 1)) 46 (fun _ => nI 0)) 45 (fun _ => nI 0)) L) (fun _ => True) 0 0 := by
  refine cV_start (cc := cX8_beginAt) (maxL := 2) RX8 rfl (by decide +kernel) rfl (Nat.le_of_ble_eq_true rfl) ?_
  intro κ hlκ C hr _ E hR hn
  subst hlκ
  have hL : ∀ w ∈ u_ws RX8 TX8 28, w.before (ja κ) (js κ) = true := fun w h => C.t w (mX8_beginAt_wsX80 w h)
  have f57 : (Cond.fieldLink RX8 57 "GuardedGrammarModel" (TX8 22).2.1 (TX8 22).2.2.1).before (ja κ) (js κ) = true := C.t (.fieldLink RX8 57 "GuardedGrammarModel" "todo" "[I") (mX8_beginAt_o _ (by decide +kernel))
  have f116 : (Cond.fieldLink RX8 116 "GuardedGrammarModel" (TX8 21).2.1 (TX8 21).2.2.1).before (ja κ) (js κ) = true := C.t (.fieldLink RX8 116 "GuardedGrammarModel" "open" "I") (mX8_beginAt_o _ (by decide +kernel))
  have f119 : (Cond.fieldLink RX8 119 "GuardedGrammarModel" (TX8 20).2.1 (TX8 20).2.2.1).before (ja κ) (js κ) = true := C.t (.fieldLink RX8 119 "GuardedGrammarModel" "visited" "I") (mX8_beginAt_o _ (by decide +kernel))
  have f126 : (Cond.fieldLink RX8 126 "GuardedGrammarModel" (TX8 18).2.1 (TX8 18).2.2.1).before (ja κ) (js κ) = true := C.t (.fieldLink RX8 126 "GuardedGrammarModel" "fresh" "I") (mX8_beginAt_o _ (by decide +kernel))
  show J D κ 0 0 0 [(0, .ref (bd 0)), (1, .int (nI (root)))] [] (wm bd c Z L)
  refine j_aload_n C 0 0 dX8_beginAt_0 rfl rfl ?_
  refine j_get C 1 (ci := 8) hL rfl 0 (wm_o0 bd c Z L) 22 (by decide) f57 rfl (v := .ref (bd 15)) rfl dX8_beginAt_1 ?_
  refine j_iconst C 4 (v := nI 0) dX8_beginAt_4 rfl ?_
  refine j_iload_n C 5 1 dX8_beginAt_5 rfl rfl ?_
  refine j_iast C 6 15 0 (f := Z 15) (wm_a15 bd c Z L) rfl (by omega) (by decide) (wm_s15 bd c Z L (upd (Z 15) (0) (nI (root)))) dX8_beginAt_6 ?_
  refine j_aload_n C 7 0 dX8_beginAt_7 rfl rfl ?_
  refine j_iconst C 8 (v := nI 1) dX8_beginAt_8 rfl ?_
  refine j_put C 9 (ci := 8) hL tyX8_ok nmX8 rfl 0 (wm_o0 bd c (upR Z 15 (upd (Z 15) (0) (nI (root)))) L) 21 (by decide) f116 rfl rfl (tyX8_ok 21 (by decide)) rfl rfl (Nat.le_of_ble_eq_true rfl) (wm_p47 bd c (upR Z 15 (upd (Z 15) (0) (nI (root)))) L (nI (1))) dX8_beginAt_9 ?_
  refine j_aload_n C 12 0 dX8_beginAt_12 rfl rfl ?_
  refine j_iconst C 13 (v := nI 0) dX8_beginAt_13 rfl ?_
  refine j_put C 14 (ci := 8) hL tyX8_ok nmX8 rfl 0 (wm_o0 bd c (upR (upR Z 15 (upd (Z 15) (0) (nI (root)))) 47 (fun _ => nI (1))) L) 20 (by decide) f119 rfl rfl (tyX8_ok 20 (by decide)) rfl rfl (Nat.le_of_ble_eq_true rfl) (wm_p46 bd c (upR (upR Z 15 (upd (Z 15) (0) (nI (root)))) 47 (fun _ => nI (1))) L (nI (0))) dX8_beginAt_14 ?_
  refine j_aload_n C 17 0 dX8_beginAt_17 rfl rfl ?_
  refine j_iconst C 18 (v := nI 0) dX8_beginAt_18 rfl ?_
  refine j_put C 19 (ci := 8) hL tyX8_ok nmX8 rfl 0 (wm_o0 bd c (upR (upR (upR Z 15 (upd (Z 15) (0) (nI (root)))) 47 (fun _ => nI (1))) 46 (fun _ => nI (0))) L) 18 (by decide) f126 rfl rfl (tyX8_ok 18 (by decide)) rfl rfl (Nat.le_of_ble_eq_true rfl) (wm_p45 bd c (upR (upR (upR Z 15 (upd (Z 15) (0) (nI (root)))) 47 (fun _ => nI (1))) 46 (fun _ => nI (0))) L (nI (0))) dX8_beginAt_19 ?_
  exact j_vreti C hr E (Nat.le_refl _) (Nat.le_refl _) () trivial rfl dX8_beginAt_22
set_option maxHeartbeats 4000000 in
set_option maxRecDepth 100000 in
theorem c_X8_go (ll : Launch) (D : va_G) (bd : Nat → Nat) (c : Nat → ClassId) (Z : ZT) (L : LT) {n : Nat} {τ : Tb} {root : Nat} (S : TS) (X : Nat) (x : Int32) (B v0 : Nat) (σ0 l0 : List Nat) (Q : List Nat → Nat → List Nat → Prop) (hwf : g_WF n τ) (hr2 : root < n) (hE : g_EM n τ Z) (hB : g_BM τ root Z) (hY : g_YM τ root S Z) (hT : g_TY τ root S) (hx : x = if X < 8 then nI X else -1) (hX8 : X ≤ 8) (hQM : g_QM Z σ0 v0 l0) (hQ0 : Q σ0 v0 l0) (hQ : ∀ t σ v l, Q (t :: σ) v l → (g_st τ root S X t σ).1 = 0 → Q (g_st τ root S X t σ).2 (v + 1) (if g_kd τ t = 4 then l ++ [g_cho τ S X t] else l)) (hb : ∀ σ v l, Q σ v l → v ≤ B ∧ σ.length < 2000 ∧ l.length < 2100 ∧ ∀ u, u ∈ σ → u ∈ g_P τ root) : cI (S := ZT) ll yX8_go vsX8_go ({ frames := 1, cells := 0, slots := 0, locals := 24 } : Room) D (tysG c) [.ref (bd 0), .int (x)] (wm bd c Z L) (fun Z' => wm bd c Z' L) (fun r Z' => (∃ σ v l, Q σ v l ∧ ((σ = [] ∧ r = nI 0 ∧ g_QM Z' [] v l) ∨ (∃ t σ', σ = t :: σ' ∧ g_st τ root S X t σ' = (1, σ') ∧ r = nI 1 ∧ g_QM Z' σ' (v + 1) l) ∨ (∃ t σ', σ = t :: σ' ∧ (g_st τ root S X t σ').1 = 2 ∧ r = -1))) ∧ g_fr [14, 15, 45, 46, 47] Z Z') 0 0 := by
  refine cI_start (cc := cX8_go) (maxL := 4) RX8 rfl (by decide +kernel) rfl (Nat.le_of_ble_eq_true rfl) ?_
  intro κ hlκ C hr _ E hR hn
  subst hlκ
  have hL : ∀ w ∈ u_ws RX8 TX8 28, w.before (ja κ) (js κ) = true := fun w h => C.t w (mX8_go_wsX80 w h)
  have f116 : (Cond.fieldLink RX8 116 "GuardedGrammarModel" (TX8 21).2.1 (TX8 21).2.2.1).before (ja κ) (js κ) = true := C.t (.fieldLink RX8 116 "GuardedGrammarModel" "open" "I") (mX8_go_o _ (by decide +kernel))
  have f57 : (Cond.fieldLink RX8 57 "GuardedGrammarModel" (TX8 22).2.1 (TX8 22).2.2.1).before (ja κ) (js κ) = true := C.t (.fieldLink RX8 57 "GuardedGrammarModel" "todo" "[I") (mX8_go_o _ (by decide +kernel))
  have f119 : (Cond.fieldLink RX8 119 "GuardedGrammarModel" (TX8 20).2.1 (TX8 20).2.2.1).before (ja κ) (js κ) = true := C.t (.fieldLink RX8 119 "GuardedGrammarModel" "visited" "I") (mX8_go_o _ (by decide +kernel))
  have f7 : (Cond.fieldLink RX8 7 "GuardedGrammarModel" (TX8 2).2.1 (TX8 2).2.2.1).before (ja κ) (js κ) = true := C.t (.fieldLink RX8 7 "GuardedGrammarModel" "kind" "[I") (mX8_go_o _ (by decide +kernel))
  have f13 : (Cond.fieldLink RX8 13 "GuardedGrammarModel" (TX8 3).2.1 (TX8 3).2.2.1).before (ja κ) (js κ) = true := C.t (.fieldLink RX8 13 "GuardedGrammarModel" "sign" "[I") (mX8_go_o _ (by decide +kernel))
  have f19 : (Cond.fieldLink RX8 19 "GuardedGrammarModel" (TX8 5).2.1 (TX8 5).2.2.1).before (ja κ) (js κ) = true := C.t (.fieldLink RX8 19 "GuardedGrammarModel" "two" "[I") (mX8_go_o _ (by decide +kernel))
  have f16 : (Cond.fieldLink RX8 16 "GuardedGrammarModel" (TX8 4).2.1 (TX8 4).2.2.1).before (ja κ) (js κ) = true := C.t (.fieldLink RX8 16 "GuardedGrammarModel" "one" "[I") (mX8_go_o _ (by decide +kernel))
  have f41 : (Cond.fieldLink RX8 41 "GuardedGrammarModel" (TX8 12).2.1 (TX8 12).2.2.1).before (ja κ) (js κ) = true := C.t (.fieldLink RX8 41 "GuardedGrammarModel" "binder" "[I") (mX8_go_o _ (by decide +kernel))
  have f54 : (Cond.fieldLink RX8 54 "GuardedGrammarModel" (TX8 19).2.1 (TX8 19).2.2.1).before (ja κ) (js κ) = true := C.t (.fieldLink RX8 54 "GuardedGrammarModel" "met" "[I") (mX8_go_o _ (by decide +kernel))
  have f126 : (Cond.fieldLink RX8 126 "GuardedGrammarModel" (TX8 18).2.1 (TX8 18).2.2.1).before (ja κ) (js κ) = true := C.t (.fieldLink RX8 126 "GuardedGrammarModel" "fresh" "I") (mX8_go_o _ (by decide +kernel))
  show J D κ 0 0 0 [(0, .ref (bd 0)), (1, .int (x))] [] (wm bd c Z L)
  have ht48 := hwf.1
  have hxe : ∀ s, s < 8 → (x = nI s ↔ s = X) := by
    intro s hs
    rw [hx]
    by_cases h : X < 8
    · rw [if_pos h]
      exact ⟨fun e => ((nI_eq (by omega) (by omega)).mp e).symm, fun e => by rw [e]⟩
    · rw [if_neg h]
      exact ⟨fun e => absurd e.symm (e_nm1 (by omega)), fun e => by omega⟩
  have loop : ∀ m (σ : List Nat) (v : Nat) (l : List Nat) (Z1 : ZT), m + v = B + 1 → Q σ v l → g_QM Z1 σ v l → g_fr [14, 15, 45, 46, 47] Z Z1 → ∀ lv, lv_pick lv [0, 1] = [(0, .ref (bd 0)), (1, .int x)] → J D κ 0 0 0 lv [] (wm bd c Z1 L) := by
    intro m
    induction m with
    | zero => intro σ v l Z1 hm hq; have := (hb σ v l hq).1; omega
    | succ m ih =>
      intro σ v l Z1 hm hq hM hfr lv hlv
      obtain ⟨b1, b2, b3, b4⟩ := hb σ v l hq
      obtain ⟨h47, h15, h46, h45, h14⟩ := id hM
      refine j_lv [0, 1] hlv ?_
      cases σ with
      | nil =>
        have h47b : Z1 47 0 = nI 0 := h47
        refine j_aload_n C 0 0 dX8_go_0 rfl rfl ?_
        refine j_get C 1 (ci := 8) hL rfl 0 (wm_o0 bd c Z1 L) 21 (by decide) f116 rfl (v := .int (Z1 47 0)) rfl dX8_go_1 ?_
        refine j_eqi h47b ?_
        refine j_if_le_n C 4 283 (by omega) dX8_go_4 (by decide) (fun _ => ?_) (fun h => absurd h (by omega))
        refine j_iconst C 283 (v := nI 0) dX8_go_283 rfl ?_
        exact j_ireti C hr E (Nat.le_refl _) (Nat.le_refl _) rfl Z1 ⟨⟨[], v, l, hq, Or.inl ⟨rfl, rfl, hM⟩⟩, hfr⟩ rfl dX8_go_284
      | cons t σ =>
        have ht : t ∈ g_P τ root := b4 t (by simp)
        have hsl : (t :: σ).length = σ.length + 1 := rfl
        have h47b : Z1 47 0 = nI (σ.length + 1) := h47
        have hE : g_EM n τ Z1 := g_EM_fr hfr (by decide) hE
        have hB : g_BM τ root Z1 := g_BM_fr hfr (by decide) hB
        have hY : g_YM τ root S Z1 := g_YM_fr hfr (by decide) hY
        have hpop := g_ar_pop (l := σ.reverse) (x := t) (by rw [List.reverse_cons] at h15; exact h15)
        rw [List.length_reverse] at hpop
        have ht48 := hwf.1
        have htn := g_P_lt hwf hr2 ht
        have hk6 : g_kd τ t ≤ 6 := (hwf.2 t htn).1
        have hk : g_kd τ t = 0 ∨ g_kd τ t = 1 ∨ g_kd τ t = 2 ∨ g_kd τ t = 3 ∨ g_kd τ t = 4 ∨ g_kd τ t = 5 ∨ g_kd τ t = 6 := by omega
        rcases hk with hk | hk | hk | hk | hk | hk | hk
        · refine j_aload_n C 0 0 dX8_go_0 rfl rfl ?_
          refine j_get C 1 (ci := 8) hL rfl 0 (wm_o0 bd c Z1 L) 21 (by decide) f116 rfl (v := .int (Z1 47 0)) rfl dX8_go_1 ?_
          refine j_eqi h47b ?_
          refine j_if_le_n C 4 283 (by omega) dX8_go_4 (by decide) (fun h => absurd h (by omega)) (fun _ => ?_)
          refine j_aload_n C 7 0 dX8_go_7 rfl rfl ?_
          refine j_dup C 8 dX8_go_8 rfl ?_
          refine j_get C 9 (ci := 8) hL rfl 0 (wm_o0 bd c Z1 L) 21 (by decide) f116 rfl (v := .int (Z1 47 0)) rfl dX8_go_9 ?_
          refine j_eqi h47b ?_
          refine j_iconst C 12 (v := nI 1) dX8_go_12 rfl ?_
          refine j_isub_e C 13 dX8_go_13 (pk_sub (by omega)) ?_
          refine j_eqi (show nI (σ.length + 1 - 1) = nI σ.length by rw [Nat.add_sub_cancel]) ?_
          refine j_put C 14 (ci := 8) hL tyX8_ok nmX8 rfl 0 (wm_o0 bd c Z1 L) 21 (by decide) f116 rfl rfl (tyX8_ok 21 (by decide)) rfl rfl (Nat.le_of_ble_eq_true rfl) (wm_p47 bd c Z1 L (nI (σ.length))) dX8_go_14 ?_
          refine j_aload_n C 17 0 dX8_go_17 rfl rfl ?_
          refine j_get C 18 (ci := 8) hL rfl 0 (wm_o0 bd c (upR Z1 47 (fun _ => nI (σ.length))) L) 22 (by decide) f57 rfl (v := .ref (bd 15)) rfl dX8_go_18 ?_
          refine j_aload_n C 21 0 dX8_go_21 rfl rfl ?_
          refine j_get C 22 (ci := 8) hL rfl 0 (wm_o0 bd c (upR Z1 47 (fun _ => nI (σ.length))) L) 21 (by decide) f116 rfl (v := .int (nI (σ.length))) rfl dX8_go_22 ?_
          refine j_iald C 25 15 0 (f := Z1 15) (wm_a15 bd c (upR Z1 47 (fun _ => nI (σ.length))) L) rfl (by omega) (by decide) dX8_go_25 ?_
          refine j_eqi hpop.2 ?_
          refine j_istore_n C 26 (lv' := [(2, .int (nI (t))), (0, .ref (bd 0)), (1, .int (x))]) dX8_go_26 rfl (by rw [hn]; decide) rfl ?_
          refine j_aload_n C 27 1 dX8_go_27 rfl rfl ?_
          refine j_dup C 28 dX8_go_28 rfl ?_
          refine j_get C 29 (ci := 8) hL rfl 0 (wm_o0 bd c (upR Z1 47 (fun _ => nI (σ.length))) L) 20 (by decide) f119 rfl (v := .int (Z1 46 0)) rfl dX8_go_29 ?_
          refine j_eqi h46 ?_
          refine j_iconst C 32 (v := nI 1) dX8_go_32 rfl ?_
          refine j_iadd_e C 33 dX8_go_33 (nI_add _ _) ?_
          refine j_put C 34 (ci := 8) hL tyX8_ok nmX8 rfl 0 (wm_o0 bd c (upR Z1 47 (fun _ => nI (σ.length))) L) 20 (by decide) f119 rfl rfl (tyX8_ok 20 (by decide)) rfl rfl (Nat.le_of_ble_eq_true rfl) (wm_p46 bd c (upR Z1 47 (fun _ => nI (σ.length))) L (nI (v + 1))) dX8_go_34 ?_
          refine j_aload_n C 37 1 dX8_go_37 rfl rfl ?_
          refine j_get C 38 (ci := 8) hL rfl 0 (wm_o0 bd c (upR (upR Z1 47 (fun _ => nI (σ.length))) 46 (fun _ => nI (v + 1))) L) 2 (by decide) f7 rfl (v := .ref (bd 1)) rfl dX8_go_38 ?_
          refine j_iload_n C 41 0 dX8_go_41 rfl rfl ?_
          refine j_iald C 42 1 0 (f := Z1 1) (wm_a1 bd c (upR (upR Z1 47 (fun _ => nI (σ.length))) 46 (fun _ => nI (v + 1))) L) rfl (by omega) (by decide) dX8_go_42 ?_
          refine j_eqi (hE t htn).1 ?_
          refine j_iconst C 43 (v := nI 1) dX8_go_43 rfl ?_
          refine j_icmp_ne_n C 44 49 (by omega) (by omega) dX8_go_44 (by decide) (fun _ => ?_) (fun h => absurd h (by omega))
          refine j_aload_n C 49 1 dX8_go_49 rfl rfl ?_
          refine j_get C 50 (ci := 8) hL rfl 0 (wm_o0 bd c (upR (upR Z1 47 (fun _ => nI (σ.length))) 46 (fun _ => nI (v + 1))) L) 2 (by decide) f7 rfl (v := .ref (bd 1)) rfl dX8_go_50 ?_
          refine j_iload_n C 53 0 dX8_go_53 rfl rfl ?_
          refine j_iald C 54 1 0 (f := Z1 1) (wm_a1 bd c (upR (upR Z1 47 (fun _ => nI (σ.length))) 46 (fun _ => nI (v + 1))) L) rfl (by omega) (by decide) dX8_go_54 ?_
          refine j_eqi (hE t htn).1 ?_
          refine j_iconst C 55 (v := nI 2) dX8_go_55 rfl ?_
          refine j_icmp_ne_n C 56 75 (by omega) (by omega) dX8_go_56 (by decide) (fun _ => ?_) (fun h => absurd h (by omega))
          refine j_aload_n C 75 1 dX8_go_75 rfl rfl ?_
          refine j_get C 76 (ci := 8) hL rfl 0 (wm_o0 bd c (upR (upR Z1 47 (fun _ => nI (σ.length))) 46 (fun _ => nI (v + 1))) L) 2 (by decide) f7 rfl (v := .ref (bd 1)) rfl dX8_go_76 ?_
          refine j_iload_n C 79 0 dX8_go_79 rfl rfl ?_
          refine j_iald C 80 1 0 (f := Z1 1) (wm_a1 bd c (upR (upR Z1 47 (fun _ => nI (σ.length))) 46 (fun _ => nI (v + 1))) L) rfl (by omega) (by decide) dX8_go_80 ?_
          refine j_eqi (hE t htn).1 ?_
          refine j_iconst C 81 (v := nI 3) dX8_go_81 rfl ?_
          refine j_icmp_ne_n C 82 130 (by omega) (by omega) dX8_go_82 (by decide) (fun _ => ?_) (fun h => absurd h (by omega))
          refine j_aload_n C 130 1 dX8_go_130 rfl rfl ?_
          refine j_get C 131 (ci := 8) hL rfl 0 (wm_o0 bd c (upR (upR Z1 47 (fun _ => nI (σ.length))) 46 (fun _ => nI (v + 1))) L) 2 (by decide) f7 rfl (v := .ref (bd 1)) rfl dX8_go_131 ?_
          refine j_iload_n C 134 0 dX8_go_134 rfl rfl ?_
          refine j_iald C 135 1 0 (f := Z1 1) (wm_a1 bd c (upR (upR Z1 47 (fun _ => nI (σ.length))) 46 (fun _ => nI (v + 1))) L) rfl (by omega) (by decide) dX8_go_135 ?_
          refine j_eqi (hE t htn).1 ?_
          refine j_bipush C 136 (v := nI 6) dX8_go_136 rfl ?_
          refine j_icmp_eq_n C 138 151 (by omega) (by omega) dX8_go_138 (by decide) (fun h => absurd h (by omega)) (fun _ => ?_)
          refine j_aload_n C 141 1 dX8_go_141 rfl rfl ?_
          refine j_get C 142 (ci := 8) hL rfl 0 (wm_o0 bd c (upR (upR Z1 47 (fun _ => nI (σ.length))) 46 (fun _ => nI (v + 1))) L) 2 (by decide) f7 rfl (v := .ref (bd 1)) rfl dX8_go_142 ?_
          refine j_iload_n C 145 0 dX8_go_145 rfl rfl ?_
          refine j_iald C 146 1 0 (f := Z1 1) (wm_a1 bd c (upR (upR Z1 47 (fun _ => nI (σ.length))) 46 (fun _ => nI (v + 1))) L) rfl (by omega) (by decide) dX8_go_146 ?_
          refine j_eqi (hE t htn).1 ?_
          refine j_iconst C 147 (v := nI 5) dX8_go_147 rfl ?_
          refine j_icmp_ne_n C 148 199 (by omega) (by omega) dX8_go_148 (by decide) (fun _ => ?_) (fun h => absurd h (by omega))
          refine j_aload_n C 199 1 dX8_go_199 rfl rfl ?_
          refine j_get C 200 (ci := 8) hL rfl 0 (wm_o0 bd c (upR (upR Z1 47 (fun _ => nI (σ.length))) 46 (fun _ => nI (v + 1))) L) 2 (by decide) f7 rfl (v := .ref (bd 1)) rfl dX8_go_200 ?_
          refine j_iload_n C 203 0 dX8_go_203 rfl rfl ?_
          refine j_iald C 204 1 0 (f := Z1 1) (wm_a1 bd c (upR (upR Z1 47 (fun _ => nI (σ.length))) 46 (fun _ => nI (v + 1))) L) rfl (by omega) (by decide) dX8_go_204 ?_
          refine j_eqi (hE t htn).1 ?_
          refine j_iconst C 205 (v := nI 4) dX8_go_205 rfl ?_
          refine j_icmp_ne_n C 206 280 (by omega) (by omega) dX8_go_206 (by decide) (fun _ => ?_) (fun h => absurd h (by omega))
          refine j_goto C 280 0 dX8_go_280 (by decide) ?_
          have q := hQ t σ v l hq (by rw [g_st0 hk])
          rw [g_st0 hk] at q
          rw [if_neg (by omega)] at q
          exact j_lv [1, 2] rfl (ih _ (v + 1) _ (upR (upR Z1 47 (fun _ => nI (σ.length))) 46 (fun _ => nI (v + 1))) (by omega) q ⟨rfl, hpop.1, rfl, h45, h14⟩ (g_fr_up (g_fr_up hfr (by decide) _) (by decide) _) _ rfl)
        · refine j_aload_n C 0 0 dX8_go_0 rfl rfl ?_
          refine j_get C 1 (ci := 8) hL rfl 0 (wm_o0 bd c Z1 L) 21 (by decide) f116 rfl (v := .int (Z1 47 0)) rfl dX8_go_1 ?_
          refine j_eqi h47b ?_
          refine j_if_le_n C 4 283 (by omega) dX8_go_4 (by decide) (fun h => absurd h (by omega)) (fun _ => ?_)
          refine j_aload_n C 7 0 dX8_go_7 rfl rfl ?_
          refine j_dup C 8 dX8_go_8 rfl ?_
          refine j_get C 9 (ci := 8) hL rfl 0 (wm_o0 bd c Z1 L) 21 (by decide) f116 rfl (v := .int (Z1 47 0)) rfl dX8_go_9 ?_
          refine j_eqi h47b ?_
          refine j_iconst C 12 (v := nI 1) dX8_go_12 rfl ?_
          refine j_isub_e C 13 dX8_go_13 (pk_sub (by omega)) ?_
          refine j_eqi (show nI (σ.length + 1 - 1) = nI σ.length by rw [Nat.add_sub_cancel]) ?_
          refine j_put C 14 (ci := 8) hL tyX8_ok nmX8 rfl 0 (wm_o0 bd c Z1 L) 21 (by decide) f116 rfl rfl (tyX8_ok 21 (by decide)) rfl rfl (Nat.le_of_ble_eq_true rfl) (wm_p47 bd c Z1 L (nI (σ.length))) dX8_go_14 ?_
          refine j_aload_n C 17 0 dX8_go_17 rfl rfl ?_
          refine j_get C 18 (ci := 8) hL rfl 0 (wm_o0 bd c (upR Z1 47 (fun _ => nI (σ.length))) L) 22 (by decide) f57 rfl (v := .ref (bd 15)) rfl dX8_go_18 ?_
          refine j_aload_n C 21 0 dX8_go_21 rfl rfl ?_
          refine j_get C 22 (ci := 8) hL rfl 0 (wm_o0 bd c (upR Z1 47 (fun _ => nI (σ.length))) L) 21 (by decide) f116 rfl (v := .int (nI (σ.length))) rfl dX8_go_22 ?_
          refine j_iald C 25 15 0 (f := Z1 15) (wm_a15 bd c (upR Z1 47 (fun _ => nI (σ.length))) L) rfl (by omega) (by decide) dX8_go_25 ?_
          refine j_eqi hpop.2 ?_
          refine j_istore_n C 26 (lv' := [(2, .int (nI (t))), (0, .ref (bd 0)), (1, .int (x))]) dX8_go_26 rfl (by rw [hn]; decide) rfl ?_
          refine j_aload_n C 27 1 dX8_go_27 rfl rfl ?_
          refine j_dup C 28 dX8_go_28 rfl ?_
          refine j_get C 29 (ci := 8) hL rfl 0 (wm_o0 bd c (upR Z1 47 (fun _ => nI (σ.length))) L) 20 (by decide) f119 rfl (v := .int (Z1 46 0)) rfl dX8_go_29 ?_
          refine j_eqi h46 ?_
          refine j_iconst C 32 (v := nI 1) dX8_go_32 rfl ?_
          refine j_iadd_e C 33 dX8_go_33 (nI_add _ _) ?_
          refine j_put C 34 (ci := 8) hL tyX8_ok nmX8 rfl 0 (wm_o0 bd c (upR Z1 47 (fun _ => nI (σ.length))) L) 20 (by decide) f119 rfl rfl (tyX8_ok 20 (by decide)) rfl rfl (Nat.le_of_ble_eq_true rfl) (wm_p46 bd c (upR Z1 47 (fun _ => nI (σ.length))) L (nI (v + 1))) dX8_go_34 ?_
          refine j_aload_n C 37 1 dX8_go_37 rfl rfl ?_
          refine j_get C 38 (ci := 8) hL rfl 0 (wm_o0 bd c (upR (upR Z1 47 (fun _ => nI (σ.length))) 46 (fun _ => nI (v + 1))) L) 2 (by decide) f7 rfl (v := .ref (bd 1)) rfl dX8_go_38 ?_
          refine j_iload_n C 41 0 dX8_go_41 rfl rfl ?_
          refine j_iald C 42 1 0 (f := Z1 1) (wm_a1 bd c (upR (upR Z1 47 (fun _ => nI (σ.length))) 46 (fun _ => nI (v + 1))) L) rfl (by omega) (by decide) dX8_go_42 ?_
          refine j_eqi (hE t htn).1 ?_
          refine j_iconst C 43 (v := nI 1) dX8_go_43 rfl ?_
          refine j_icmp_ne_n C 44 49 (by omega) (by omega) dX8_go_44 (by decide) (fun h => absurd h (by omega)) (fun _ => ?_)
          refine j_iconst C 47 (v := -1) dX8_go_47 rfl ?_
          exact j_ireti C hr E (Nat.le_refl _) (Nat.le_refl _) rfl (upR (upR Z1 47 (fun _ => nI (σ.length))) 46 (fun _ => nI (v + 1))) ⟨⟨t :: σ, v, l, hq, Or.inr (Or.inr ⟨t, σ, rfl, by rw [g_st1 hk], rfl⟩)⟩, (g_fr_up (g_fr_up hfr (by decide) _) (by decide) _)⟩ rfl dX8_go_48
        · refine j_aload_n C 0 0 dX8_go_0 rfl rfl ?_
          refine j_get C 1 (ci := 8) hL rfl 0 (wm_o0 bd c Z1 L) 21 (by decide) f116 rfl (v := .int (Z1 47 0)) rfl dX8_go_1 ?_
          refine j_eqi h47b ?_
          refine j_if_le_n C 4 283 (by omega) dX8_go_4 (by decide) (fun h => absurd h (by omega)) (fun _ => ?_)
          refine j_aload_n C 7 0 dX8_go_7 rfl rfl ?_
          refine j_dup C 8 dX8_go_8 rfl ?_
          refine j_get C 9 (ci := 8) hL rfl 0 (wm_o0 bd c Z1 L) 21 (by decide) f116 rfl (v := .int (Z1 47 0)) rfl dX8_go_9 ?_
          refine j_eqi h47b ?_
          refine j_iconst C 12 (v := nI 1) dX8_go_12 rfl ?_
          refine j_isub_e C 13 dX8_go_13 (pk_sub (by omega)) ?_
          refine j_eqi (show nI (σ.length + 1 - 1) = nI σ.length by rw [Nat.add_sub_cancel]) ?_
          refine j_put C 14 (ci := 8) hL tyX8_ok nmX8 rfl 0 (wm_o0 bd c Z1 L) 21 (by decide) f116 rfl rfl (tyX8_ok 21 (by decide)) rfl rfl (Nat.le_of_ble_eq_true rfl) (wm_p47 bd c Z1 L (nI (σ.length))) dX8_go_14 ?_
          refine j_aload_n C 17 0 dX8_go_17 rfl rfl ?_
          refine j_get C 18 (ci := 8) hL rfl 0 (wm_o0 bd c (upR Z1 47 (fun _ => nI (σ.length))) L) 22 (by decide) f57 rfl (v := .ref (bd 15)) rfl dX8_go_18 ?_
          refine j_aload_n C 21 0 dX8_go_21 rfl rfl ?_
          refine j_get C 22 (ci := 8) hL rfl 0 (wm_o0 bd c (upR Z1 47 (fun _ => nI (σ.length))) L) 21 (by decide) f116 rfl (v := .int (nI (σ.length))) rfl dX8_go_22 ?_
          refine j_iald C 25 15 0 (f := Z1 15) (wm_a15 bd c (upR Z1 47 (fun _ => nI (σ.length))) L) rfl (by omega) (by decide) dX8_go_25 ?_
          refine j_eqi hpop.2 ?_
          refine j_istore_n C 26 (lv' := [(2, .int (nI (t))), (0, .ref (bd 0)), (1, .int (x))]) dX8_go_26 rfl (by rw [hn]; decide) rfl ?_
          refine j_aload_n C 27 1 dX8_go_27 rfl rfl ?_
          refine j_dup C 28 dX8_go_28 rfl ?_
          refine j_get C 29 (ci := 8) hL rfl 0 (wm_o0 bd c (upR Z1 47 (fun _ => nI (σ.length))) L) 20 (by decide) f119 rfl (v := .int (Z1 46 0)) rfl dX8_go_29 ?_
          refine j_eqi h46 ?_
          refine j_iconst C 32 (v := nI 1) dX8_go_32 rfl ?_
          refine j_iadd_e C 33 dX8_go_33 (nI_add _ _) ?_
          refine j_put C 34 (ci := 8) hL tyX8_ok nmX8 rfl 0 (wm_o0 bd c (upR Z1 47 (fun _ => nI (σ.length))) L) 20 (by decide) f119 rfl rfl (tyX8_ok 20 (by decide)) rfl rfl (Nat.le_of_ble_eq_true rfl) (wm_p46 bd c (upR Z1 47 (fun _ => nI (σ.length))) L (nI (v + 1))) dX8_go_34 ?_
          refine j_aload_n C 37 1 dX8_go_37 rfl rfl ?_
          refine j_get C 38 (ci := 8) hL rfl 0 (wm_o0 bd c (upR (upR Z1 47 (fun _ => nI (σ.length))) 46 (fun _ => nI (v + 1))) L) 2 (by decide) f7 rfl (v := .ref (bd 1)) rfl dX8_go_38 ?_
          refine j_iload_n C 41 0 dX8_go_41 rfl rfl ?_
          refine j_iald C 42 1 0 (f := Z1 1) (wm_a1 bd c (upR (upR Z1 47 (fun _ => nI (σ.length))) 46 (fun _ => nI (v + 1))) L) rfl (by omega) (by decide) dX8_go_42 ?_
          refine j_eqi (hE t htn).1 ?_
          refine j_iconst C 43 (v := nI 1) dX8_go_43 rfl ?_
          refine j_icmp_ne_n C 44 49 (by omega) (by omega) dX8_go_44 (by decide) (fun _ => ?_) (fun h => absurd h (by omega))
          refine j_aload_n C 49 1 dX8_go_49 rfl rfl ?_
          refine j_get C 50 (ci := 8) hL rfl 0 (wm_o0 bd c (upR (upR Z1 47 (fun _ => nI (σ.length))) 46 (fun _ => nI (v + 1))) L) 2 (by decide) f7 rfl (v := .ref (bd 1)) rfl dX8_go_50 ?_
          refine j_iload_n C 53 0 dX8_go_53 rfl rfl ?_
          refine j_iald C 54 1 0 (f := Z1 1) (wm_a1 bd c (upR (upR Z1 47 (fun _ => nI (σ.length))) 46 (fun _ => nI (v + 1))) L) rfl (by omega) (by decide) dX8_go_54 ?_
          refine j_eqi (hE t htn).1 ?_
          refine j_iconst C 55 (v := nI 2) dX8_go_55 rfl ?_
          refine j_icmp_ne_n C 56 75 (by omega) (by omega) dX8_go_56 (by decide) (fun h => absurd h (by omega)) (fun _ => ?_)
          refine j_iload_n C 59 2 dX8_go_59 rfl rfl ?_
          refine j_aload_n C 60 1 dX8_go_60 rfl rfl ?_
          refine j_get C 61 (ci := 8) hL rfl 0 (wm_o0 bd c (upR (upR Z1 47 (fun _ => nI (σ.length))) 46 (fun _ => nI (v + 1))) L) 3 (by decide) f13 rfl (v := .ref (bd 2)) rfl dX8_go_61 ?_
          refine j_iload_n C 64 0 dX8_go_64 rfl rfl ?_
          refine j_iald C 65 2 0 (f := Z1 2) (wm_a2 bd c (upR (upR Z1 47 (fun _ => nI (σ.length))) 46 (fun _ => nI (v + 1))) L) rfl (by omega) (by decide) dX8_go_65 ?_
          refine j_eqi ((hE t htn).2.1 (by omega)) ?_
          refine j_icmp_ne C 66 73 dX8_go_66 (by decide) (fun h66 => ?_) (fun h66 => ?_)
          · refine j_iconst C 73 (v := -1) dX8_go_73 rfl ?_
            exact j_ireti C hr E (Nat.le_refl _) (Nat.le_refl _) rfl (upR (upR Z1 47 (fun _ => nI (σ.length))) 46 (fun _ => nI (v + 1))) ⟨⟨t :: σ, v, l, hq, Or.inr (Or.inr ⟨t, σ, rfl, by rw [g_st2 hk, if_neg (fun z => h66 ((hxe _ ((hwf.2 t htn).2.1 hk)).mpr z))], rfl⟩)⟩, (g_fr_up (g_fr_up hfr (by decide) _) (by decide) _)⟩ rfl dX8_go_74
          · refine j_iconst C 69 (v := nI 1) dX8_go_69 rfl ?_
            refine j_goto C 70 74 dX8_go_70 (by decide) ?_
            exact j_ireti C hr E (Nat.le_refl _) (Nat.le_refl _) rfl (upR (upR Z1 47 (fun _ => nI (σ.length))) 46 (fun _ => nI (v + 1))) ⟨⟨t :: σ, v, l, hq, Or.inr (Or.inl ⟨t, σ, rfl, by rw [g_st2 hk, if_pos ((hxe _ ((hwf.2 t htn).2.1 hk)).mp h66)], rfl, rfl, hpop.1, rfl, h45, h14⟩)⟩, (g_fr_up (g_fr_up hfr (by decide) _) (by decide) _)⟩ rfl dX8_go_74
        · have hlP := g_lfP hwf hr2 ht (by omega)
          have hrP := g_rtP hwf hr2 ht (by omega)
          refine j_aload_n C 0 0 dX8_go_0 rfl rfl ?_
          refine j_get C 1 (ci := 8) hL rfl 0 (wm_o0 bd c Z1 L) 21 (by decide) f116 rfl (v := .int (Z1 47 0)) rfl dX8_go_1 ?_
          refine j_eqi h47b ?_
          refine j_if_le_n C 4 283 (by omega) dX8_go_4 (by decide) (fun h => absurd h (by omega)) (fun _ => ?_)
          refine j_aload_n C 7 0 dX8_go_7 rfl rfl ?_
          refine j_dup C 8 dX8_go_8 rfl ?_
          refine j_get C 9 (ci := 8) hL rfl 0 (wm_o0 bd c Z1 L) 21 (by decide) f116 rfl (v := .int (Z1 47 0)) rfl dX8_go_9 ?_
          refine j_eqi h47b ?_
          refine j_iconst C 12 (v := nI 1) dX8_go_12 rfl ?_
          refine j_isub_e C 13 dX8_go_13 (pk_sub (by omega)) ?_
          refine j_eqi (show nI (σ.length + 1 - 1) = nI σ.length by rw [Nat.add_sub_cancel]) ?_
          refine j_put C 14 (ci := 8) hL tyX8_ok nmX8 rfl 0 (wm_o0 bd c Z1 L) 21 (by decide) f116 rfl rfl (tyX8_ok 21 (by decide)) rfl rfl (Nat.le_of_ble_eq_true rfl) (wm_p47 bd c Z1 L (nI (σ.length))) dX8_go_14 ?_
          refine j_aload_n C 17 0 dX8_go_17 rfl rfl ?_
          refine j_get C 18 (ci := 8) hL rfl 0 (wm_o0 bd c (upR Z1 47 (fun _ => nI (σ.length))) L) 22 (by decide) f57 rfl (v := .ref (bd 15)) rfl dX8_go_18 ?_
          refine j_aload_n C 21 0 dX8_go_21 rfl rfl ?_
          refine j_get C 22 (ci := 8) hL rfl 0 (wm_o0 bd c (upR Z1 47 (fun _ => nI (σ.length))) L) 21 (by decide) f116 rfl (v := .int (nI (σ.length))) rfl dX8_go_22 ?_
          refine j_iald C 25 15 0 (f := Z1 15) (wm_a15 bd c (upR Z1 47 (fun _ => nI (σ.length))) L) rfl (by omega) (by decide) dX8_go_25 ?_
          refine j_eqi hpop.2 ?_
          refine j_istore_n C 26 (lv' := [(2, .int (nI (t))), (0, .ref (bd 0)), (1, .int (x))]) dX8_go_26 rfl (by rw [hn]; decide) rfl ?_
          refine j_aload_n C 27 1 dX8_go_27 rfl rfl ?_
          refine j_dup C 28 dX8_go_28 rfl ?_
          refine j_get C 29 (ci := 8) hL rfl 0 (wm_o0 bd c (upR Z1 47 (fun _ => nI (σ.length))) L) 20 (by decide) f119 rfl (v := .int (Z1 46 0)) rfl dX8_go_29 ?_
          refine j_eqi h46 ?_
          refine j_iconst C 32 (v := nI 1) dX8_go_32 rfl ?_
          refine j_iadd_e C 33 dX8_go_33 (nI_add _ _) ?_
          refine j_put C 34 (ci := 8) hL tyX8_ok nmX8 rfl 0 (wm_o0 bd c (upR Z1 47 (fun _ => nI (σ.length))) L) 20 (by decide) f119 rfl rfl (tyX8_ok 20 (by decide)) rfl rfl (Nat.le_of_ble_eq_true rfl) (wm_p46 bd c (upR Z1 47 (fun _ => nI (σ.length))) L (nI (v + 1))) dX8_go_34 ?_
          refine j_aload_n C 37 1 dX8_go_37 rfl rfl ?_
          refine j_get C 38 (ci := 8) hL rfl 0 (wm_o0 bd c (upR (upR Z1 47 (fun _ => nI (σ.length))) 46 (fun _ => nI (v + 1))) L) 2 (by decide) f7 rfl (v := .ref (bd 1)) rfl dX8_go_38 ?_
          refine j_iload_n C 41 0 dX8_go_41 rfl rfl ?_
          refine j_iald C 42 1 0 (f := Z1 1) (wm_a1 bd c (upR (upR Z1 47 (fun _ => nI (σ.length))) 46 (fun _ => nI (v + 1))) L) rfl (by omega) (by decide) dX8_go_42 ?_
          refine j_eqi (hE t htn).1 ?_
          refine j_iconst C 43 (v := nI 1) dX8_go_43 rfl ?_
          refine j_icmp_ne_n C 44 49 (by omega) (by omega) dX8_go_44 (by decide) (fun _ => ?_) (fun h => absurd h (by omega))
          refine j_aload_n C 49 1 dX8_go_49 rfl rfl ?_
          refine j_get C 50 (ci := 8) hL rfl 0 (wm_o0 bd c (upR (upR Z1 47 (fun _ => nI (σ.length))) 46 (fun _ => nI (v + 1))) L) 2 (by decide) f7 rfl (v := .ref (bd 1)) rfl dX8_go_50 ?_
          refine j_iload_n C 53 0 dX8_go_53 rfl rfl ?_
          refine j_iald C 54 1 0 (f := Z1 1) (wm_a1 bd c (upR (upR Z1 47 (fun _ => nI (σ.length))) 46 (fun _ => nI (v + 1))) L) rfl (by omega) (by decide) dX8_go_54 ?_
          refine j_eqi (hE t htn).1 ?_
          refine j_iconst C 55 (v := nI 2) dX8_go_55 rfl ?_
          refine j_icmp_ne_n C 56 75 (by omega) (by omega) dX8_go_56 (by decide) (fun _ => ?_) (fun h => absurd h (by omega))
          refine j_aload_n C 75 1 dX8_go_75 rfl rfl ?_
          refine j_get C 76 (ci := 8) hL rfl 0 (wm_o0 bd c (upR (upR Z1 47 (fun _ => nI (σ.length))) 46 (fun _ => nI (v + 1))) L) 2 (by decide) f7 rfl (v := .ref (bd 1)) rfl dX8_go_76 ?_
          refine j_iload_n C 79 0 dX8_go_79 rfl rfl ?_
          refine j_iald C 80 1 0 (f := Z1 1) (wm_a1 bd c (upR (upR Z1 47 (fun _ => nI (σ.length))) 46 (fun _ => nI (v + 1))) L) rfl (by omega) (by decide) dX8_go_80 ?_
          refine j_eqi (hE t htn).1 ?_
          refine j_iconst C 81 (v := nI 3) dX8_go_81 rfl ?_
          refine j_icmp_ne_n C 82 130 (by omega) (by omega) dX8_go_82 (by decide) (fun h => absurd h (by omega)) (fun _ => ?_)
          refine j_aload_n C 85 1 dX8_go_85 rfl rfl ?_
          refine j_get C 86 (ci := 8) hL rfl 0 (wm_o0 bd c (upR (upR Z1 47 (fun _ => nI (σ.length))) 46 (fun _ => nI (v + 1))) L) 22 (by decide) f57 rfl (v := .ref (bd 15)) rfl dX8_go_86 ?_
          refine j_aload_n C 89 1 dX8_go_89 rfl rfl ?_
          refine j_get C 90 (ci := 8) hL rfl 0 (wm_o0 bd c (upR (upR Z1 47 (fun _ => nI (σ.length))) 46 (fun _ => nI (v + 1))) L) 21 (by decide) f116 rfl (v := .int (nI (σ.length))) rfl dX8_go_90 ?_
          refine j_aload_n C 93 1 dX8_go_93 rfl rfl ?_
          refine j_get C 94 (ci := 8) hL rfl 0 (wm_o0 bd c (upR (upR Z1 47 (fun _ => nI (σ.length))) 46 (fun _ => nI (v + 1))) L) 5 (by decide) f19 rfl (v := .ref (bd 4)) rfl dX8_go_94 ?_
          refine j_iload_n C 97 0 dX8_go_97 rfl rfl ?_
          refine j_iald C 98 4 0 (f := Z1 4) (wm_a4 bd c (upR (upR Z1 47 (fun _ => nI (σ.length))) 46 (fun _ => nI (v + 1))) L) rfl (by omega) (by decide) dX8_go_98 ?_
          refine j_eqi (g_EM_rt hE htn (by omega)) ?_
          refine j_iast C 99 15 0 (f := Z1 15) (wm_a15 bd c (upR (upR Z1 47 (fun _ => nI (σ.length))) 46 (fun _ => nI (v + 1))) L) rfl (by omega) (by decide) (wm_s15 bd c (upR (upR Z1 47 (fun _ => nI (σ.length))) 46 (fun _ => nI (v + 1))) L (upd (Z1 15) (σ.length) (nI (g_rt τ t)))) dX8_go_99 ?_
          refine j_aload_n C 100 1 dX8_go_100 rfl rfl ?_
          refine j_get C 101 (ci := 8) hL rfl 0 (wm_o0 bd c (upR (upR (upR Z1 47 (fun _ => nI (σ.length))) 46 (fun _ => nI (v + 1))) 15 (upd (Z1 15) (σ.length) (nI (g_rt τ t)))) L) 22 (by decide) f57 rfl (v := .ref (bd 15)) rfl dX8_go_101 ?_
          refine j_aload_n C 104 1 dX8_go_104 rfl rfl ?_
          refine j_get C 105 (ci := 8) hL rfl 0 (wm_o0 bd c (upR (upR (upR Z1 47 (fun _ => nI (σ.length))) 46 (fun _ => nI (v + 1))) 15 (upd (Z1 15) (σ.length) (nI (g_rt τ t)))) L) 21 (by decide) f116 rfl (v := .int (nI (σ.length))) rfl dX8_go_105 ?_
          refine j_iconst C 108 (v := nI 1) dX8_go_108 rfl ?_
          refine j_iadd_e C 109 dX8_go_109 (nI_add _ _) ?_
          refine j_aload_n C 110 1 dX8_go_110 rfl rfl ?_
          refine j_get C 111 (ci := 8) hL rfl 0 (wm_o0 bd c (upR (upR (upR Z1 47 (fun _ => nI (σ.length))) 46 (fun _ => nI (v + 1))) 15 (upd (Z1 15) (σ.length) (nI (g_rt τ t)))) L) 4 (by decide) f16 rfl (v := .ref (bd 3)) rfl dX8_go_111 ?_
          refine j_iload_n C 114 0 dX8_go_114 rfl rfl ?_
          refine j_iald C 115 3 0 (f := Z1 3) (wm_a3 bd c (upR (upR (upR Z1 47 (fun _ => nI (σ.length))) 46 (fun _ => nI (v + 1))) 15 (upd (Z1 15) (σ.length) (nI (g_rt τ t)))) L) rfl (by omega) (by decide) dX8_go_115 ?_
          refine j_eqi (g_EM_lf hE htn (by omega)) ?_
          refine j_iast C 116 15 0 (f := upd (Z1 15) (σ.length) (nI (g_rt τ t))) (wm_a15 bd c (upR (upR (upR Z1 47 (fun _ => nI (σ.length))) 46 (fun _ => nI (v + 1))) 15 (upd (Z1 15) (σ.length) (nI (g_rt τ t)))) L) rfl (by omega) (by decide) (wm_s15 bd c (upR (upR (upR Z1 47 (fun _ => nI (σ.length))) 46 (fun _ => nI (v + 1))) 15 (upd (Z1 15) (σ.length) (nI (g_rt τ t)))) L (upd (upd (Z1 15) (σ.length) (nI (g_rt τ t))) (σ.length + 1) (nI (g_lf τ t)))) dX8_go_116 ?_
          refine j_aload_n C 117 1 dX8_go_117 rfl rfl ?_
          refine j_aload_n C 118 1 dX8_go_118 rfl rfl ?_
          refine j_get C 119 (ci := 8) hL rfl 0 (wm_o0 bd c (upR (upR (upR (upR Z1 47 (fun _ => nI (σ.length))) 46 (fun _ => nI (v + 1))) 15 (upd (Z1 15) (σ.length) (nI (g_rt τ t)))) 15 (upd (upd (Z1 15) (σ.length) (nI (g_rt τ t))) (σ.length + 1) (nI (g_lf τ t)))) L) 21 (by decide) f116 rfl (v := .int (nI (σ.length))) rfl dX8_go_119 ?_
          refine j_iconst C 122 (v := nI 2) dX8_go_122 rfl ?_
          refine j_iadd_e C 123 dX8_go_123 (nI_add _ _) ?_
          refine j_put C 124 (ci := 8) hL tyX8_ok nmX8 rfl 0 (wm_o0 bd c (upR (upR (upR (upR Z1 47 (fun _ => nI (σ.length))) 46 (fun _ => nI (v + 1))) 15 (upd (Z1 15) (σ.length) (nI (g_rt τ t)))) 15 (upd (upd (Z1 15) (σ.length) (nI (g_rt τ t))) (σ.length + 1) (nI (g_lf τ t)))) L) 21 (by decide) f116 rfl rfl (tyX8_ok 21 (by decide)) rfl rfl (Nat.le_of_ble_eq_true rfl) (wm_p47 bd c (upR (upR (upR (upR Z1 47 (fun _ => nI (σ.length))) 46 (fun _ => nI (v + 1))) 15 (upd (Z1 15) (σ.length) (nI (g_rt τ t)))) 15 (upd (upd (Z1 15) (σ.length) (nI (g_rt τ t))) (σ.length + 1) (nI (g_lf τ t)))) L (nI (σ.length + 2))) dX8_go_124 ?_
          refine j_goto C 127 280 dX8_go_127 (by decide) ?_
          refine j_goto C 280 0 dX8_go_280 (by decide) ?_
          have q := hQ t σ v l hq (by rw [g_st3 hk])
          rw [g_st3 hk] at q
          rw [if_neg (by omega)] at q
          exact j_lv [1, 2] rfl (ih _ (v + 1) _ (upR (upR (upR (upR (upR Z1 47 (fun _ => nI (σ.length))) 46 (fun _ => nI (v + 1))) 15 (upd (Z1 15) (σ.length) (nI (g_rt τ t)))) 15 (upd (upd (Z1 15) (σ.length) (nI (g_rt τ t))) (σ.length + 1) (nI (g_lf τ t)))) 47 (fun _ => nI (σ.length + 2))) (by omega) q ⟨rfl, g_ar_p2 hpop.1, rfl, h45, h14⟩ (g_fr_up (g_fr_up (g_fr_up (g_fr_up (g_fr_up hfr (by decide) _) (by decide) _) (by decide) _) (by decide) _) (by decide) _) _ rfl)
        · have hlP := g_lfP hwf hr2 ht (by omega)
          have hrP := g_rtP hwf hr2 ht (by omega)
          rcases g_cho3 τ S X t with hc | hc | hc
          · refine j_aload_n C 0 0 dX8_go_0 rfl rfl ?_
            refine j_get C 1 (ci := 8) hL rfl 0 (wm_o0 bd c Z1 L) 21 (by decide) f116 rfl (v := .int (Z1 47 0)) rfl dX8_go_1 ?_
            refine j_eqi h47b ?_
            refine j_if_le_n C 4 283 (by omega) dX8_go_4 (by decide) (fun h => absurd h (by omega)) (fun _ => ?_)
            refine j_aload_n C 7 0 dX8_go_7 rfl rfl ?_
            refine j_dup C 8 dX8_go_8 rfl ?_
            refine j_get C 9 (ci := 8) hL rfl 0 (wm_o0 bd c Z1 L) 21 (by decide) f116 rfl (v := .int (Z1 47 0)) rfl dX8_go_9 ?_
            refine j_eqi h47b ?_
            refine j_iconst C 12 (v := nI 1) dX8_go_12 rfl ?_
            refine j_isub_e C 13 dX8_go_13 (pk_sub (by omega)) ?_
            refine j_eqi (show nI (σ.length + 1 - 1) = nI σ.length by rw [Nat.add_sub_cancel]) ?_
            refine j_put C 14 (ci := 8) hL tyX8_ok nmX8 rfl 0 (wm_o0 bd c Z1 L) 21 (by decide) f116 rfl rfl (tyX8_ok 21 (by decide)) rfl rfl (Nat.le_of_ble_eq_true rfl) (wm_p47 bd c Z1 L (nI (σ.length))) dX8_go_14 ?_
            refine j_aload_n C 17 0 dX8_go_17 rfl rfl ?_
            refine j_get C 18 (ci := 8) hL rfl 0 (wm_o0 bd c (upR Z1 47 (fun _ => nI (σ.length))) L) 22 (by decide) f57 rfl (v := .ref (bd 15)) rfl dX8_go_18 ?_
            refine j_aload_n C 21 0 dX8_go_21 rfl rfl ?_
            refine j_get C 22 (ci := 8) hL rfl 0 (wm_o0 bd c (upR Z1 47 (fun _ => nI (σ.length))) L) 21 (by decide) f116 rfl (v := .int (nI (σ.length))) rfl dX8_go_22 ?_
            refine j_iald C 25 15 0 (f := Z1 15) (wm_a15 bd c (upR Z1 47 (fun _ => nI (σ.length))) L) rfl (by omega) (by decide) dX8_go_25 ?_
            refine j_eqi hpop.2 ?_
            refine j_istore_n C 26 (lv' := [(2, .int (nI (t))), (0, .ref (bd 0)), (1, .int (x))]) dX8_go_26 rfl (by rw [hn]; decide) rfl ?_
            refine j_aload_n C 27 1 dX8_go_27 rfl rfl ?_
            refine j_dup C 28 dX8_go_28 rfl ?_
            refine j_get C 29 (ci := 8) hL rfl 0 (wm_o0 bd c (upR Z1 47 (fun _ => nI (σ.length))) L) 20 (by decide) f119 rfl (v := .int (Z1 46 0)) rfl dX8_go_29 ?_
            refine j_eqi h46 ?_
            refine j_iconst C 32 (v := nI 1) dX8_go_32 rfl ?_
            refine j_iadd_e C 33 dX8_go_33 (nI_add _ _) ?_
            refine j_put C 34 (ci := 8) hL tyX8_ok nmX8 rfl 0 (wm_o0 bd c (upR Z1 47 (fun _ => nI (σ.length))) L) 20 (by decide) f119 rfl rfl (tyX8_ok 20 (by decide)) rfl rfl (Nat.le_of_ble_eq_true rfl) (wm_p46 bd c (upR Z1 47 (fun _ => nI (σ.length))) L (nI (v + 1))) dX8_go_34 ?_
            refine j_aload_n C 37 1 dX8_go_37 rfl rfl ?_
            refine j_get C 38 (ci := 8) hL rfl 0 (wm_o0 bd c (upR (upR Z1 47 (fun _ => nI (σ.length))) 46 (fun _ => nI (v + 1))) L) 2 (by decide) f7 rfl (v := .ref (bd 1)) rfl dX8_go_38 ?_
            refine j_iload_n C 41 0 dX8_go_41 rfl rfl ?_
            refine j_iald C 42 1 0 (f := Z1 1) (wm_a1 bd c (upR (upR Z1 47 (fun _ => nI (σ.length))) 46 (fun _ => nI (v + 1))) L) rfl (by omega) (by decide) dX8_go_42 ?_
            refine j_eqi (hE t htn).1 ?_
            refine j_iconst C 43 (v := nI 1) dX8_go_43 rfl ?_
            refine j_icmp_ne_n C 44 49 (by omega) (by omega) dX8_go_44 (by decide) (fun _ => ?_) (fun h => absurd h (by omega))
            refine j_aload_n C 49 1 dX8_go_49 rfl rfl ?_
            refine j_get C 50 (ci := 8) hL rfl 0 (wm_o0 bd c (upR (upR Z1 47 (fun _ => nI (σ.length))) 46 (fun _ => nI (v + 1))) L) 2 (by decide) f7 rfl (v := .ref (bd 1)) rfl dX8_go_50 ?_
            refine j_iload_n C 53 0 dX8_go_53 rfl rfl ?_
            refine j_iald C 54 1 0 (f := Z1 1) (wm_a1 bd c (upR (upR Z1 47 (fun _ => nI (σ.length))) 46 (fun _ => nI (v + 1))) L) rfl (by omega) (by decide) dX8_go_54 ?_
            refine j_eqi (hE t htn).1 ?_
            refine j_iconst C 55 (v := nI 2) dX8_go_55 rfl ?_
            refine j_icmp_ne_n C 56 75 (by omega) (by omega) dX8_go_56 (by decide) (fun _ => ?_) (fun h => absurd h (by omega))
            refine j_aload_n C 75 1 dX8_go_75 rfl rfl ?_
            refine j_get C 76 (ci := 8) hL rfl 0 (wm_o0 bd c (upR (upR Z1 47 (fun _ => nI (σ.length))) 46 (fun _ => nI (v + 1))) L) 2 (by decide) f7 rfl (v := .ref (bd 1)) rfl dX8_go_76 ?_
            refine j_iload_n C 79 0 dX8_go_79 rfl rfl ?_
            refine j_iald C 80 1 0 (f := Z1 1) (wm_a1 bd c (upR (upR Z1 47 (fun _ => nI (σ.length))) 46 (fun _ => nI (v + 1))) L) rfl (by omega) (by decide) dX8_go_80 ?_
            refine j_eqi (hE t htn).1 ?_
            refine j_iconst C 81 (v := nI 3) dX8_go_81 rfl ?_
            refine j_icmp_ne_n C 82 130 (by omega) (by omega) dX8_go_82 (by decide) (fun _ => ?_) (fun h => absurd h (by omega))
            refine j_aload_n C 130 1 dX8_go_130 rfl rfl ?_
            refine j_get C 131 (ci := 8) hL rfl 0 (wm_o0 bd c (upR (upR Z1 47 (fun _ => nI (σ.length))) 46 (fun _ => nI (v + 1))) L) 2 (by decide) f7 rfl (v := .ref (bd 1)) rfl dX8_go_131 ?_
            refine j_iload_n C 134 0 dX8_go_134 rfl rfl ?_
            refine j_iald C 135 1 0 (f := Z1 1) (wm_a1 bd c (upR (upR Z1 47 (fun _ => nI (σ.length))) 46 (fun _ => nI (v + 1))) L) rfl (by omega) (by decide) dX8_go_135 ?_
            refine j_eqi (hE t htn).1 ?_
            refine j_bipush C 136 (v := nI 6) dX8_go_136 rfl ?_
            refine j_icmp_eq_n C 138 151 (by omega) (by omega) dX8_go_138 (by decide) (fun h => absurd h (by omega)) (fun _ => ?_)
            refine j_aload_n C 141 1 dX8_go_141 rfl rfl ?_
            refine j_get C 142 (ci := 8) hL rfl 0 (wm_o0 bd c (upR (upR Z1 47 (fun _ => nI (σ.length))) 46 (fun _ => nI (v + 1))) L) 2 (by decide) f7 rfl (v := .ref (bd 1)) rfl dX8_go_142 ?_
            refine j_iload_n C 145 0 dX8_go_145 rfl rfl ?_
            refine j_iald C 146 1 0 (f := Z1 1) (wm_a1 bd c (upR (upR Z1 47 (fun _ => nI (σ.length))) 46 (fun _ => nI (v + 1))) L) rfl (by omega) (by decide) dX8_go_146 ?_
            refine j_eqi (hE t htn).1 ?_
            refine j_iconst C 147 (v := nI 5) dX8_go_147 rfl ?_
            refine j_icmp_ne_n C 148 199 (by omega) (by omega) dX8_go_148 (by decide) (fun _ => ?_) (fun h => absurd h (by omega))
            refine j_aload_n C 199 1 dX8_go_199 rfl rfl ?_
            refine j_get C 200 (ci := 8) hL rfl 0 (wm_o0 bd c (upR (upR Z1 47 (fun _ => nI (σ.length))) 46 (fun _ => nI (v + 1))) L) 2 (by decide) f7 rfl (v := .ref (bd 1)) rfl dX8_go_200 ?_
            refine j_iload_n C 203 0 dX8_go_203 rfl rfl ?_
            refine j_iald C 204 1 0 (f := Z1 1) (wm_a1 bd c (upR (upR Z1 47 (fun _ => nI (σ.length))) 46 (fun _ => nI (v + 1))) L) rfl (by omega) (by decide) dX8_go_204 ?_
            refine j_eqi (hE t htn).1 ?_
            refine j_iconst C 205 (v := nI 4) dX8_go_205 rfl ?_
            refine j_icmp_ne_n C 206 280 (by omega) (by omega) dX8_go_206 (by decide) (fun h => absurd h (by omega)) (fun _ => ?_)
            refine j_aload_n C 209 1 dX8_go_209 rfl rfl ?_
            refine j_iload_n C 210 0 dX8_go_210 rfl rfl ?_
            refine j_iload_n C 211 2 dX8_go_211 rfl rfl ?_
            refine j_callI (mc := 0) (ms := 0) C 212 (c_X8_choice (jl κ) D bd c (upR (upR Z1 47 (fun _ => nI (σ.length))) 46 (fun _ => nI (v + 1))) L S X t x hwf hr2 hE hY ht hk hx) gX8_go_X8_choice rfl rfl rfl hd_X8_choice (by rw [hR]; exact ⟨Nat.le_of_ble_eq_true rfl, Nat.le_of_ble_eq_true rfl⟩) (ci := 8) rfl 0 (wm_o0 bd c (upR (upR Z1 47 (fun _ => nI (σ.length))) 46 (fun _ => nI (v + 1))) L) rfl (Nat.le_of_ble_eq_true rfl) ⟨Nat.zero_le _, Nat.zero_le _⟩ dX8_go_212 (fun r212 _ e212 => ?_)
            refine j_eqi (y := nI 0) (e212.trans (by rw [hc]; rfl)) ?_
            refine j_istore_n C 215 (lv' := [(3, .int (nI (0))), (2, .int (nI (t))), (0, .ref (bd 0)), (1, .int (x))]) dX8_go_215 rfl (by rw [hn]; decide) rfl ?_
            refine j_iload_n C 216 0 dX8_go_216 rfl rfl ?_
            refine j_if_ge_n C 217 222 (by omega) dX8_go_217 (by decide) (fun _ => ?_) (fun h => absurd h (by omega))
            refine j_aload_n C 222 2 dX8_go_222 rfl rfl ?_
            refine j_get C 223 (ci := 8) hL rfl 0 (wm_o0 bd c (upR (upR Z1 47 (fun _ => nI (σ.length))) 46 (fun _ => nI (v + 1))) L) 19 (by decide) f54 rfl (v := .ref (bd 14)) rfl dX8_go_223 ?_
            refine j_aload_n C 226 2 dX8_go_226 rfl rfl ?_
            refine j_get C 227 (ci := 8) hL rfl 0 (wm_o0 bd c (upR (upR Z1 47 (fun _ => nI (σ.length))) 46 (fun _ => nI (v + 1))) L) 18 (by decide) f126 rfl (v := .int (Z1 45 0)) rfl dX8_go_227 ?_
            refine j_eqi h45 ?_
            refine j_iload_n C 230 0 dX8_go_230 rfl rfl ?_
            refine j_iast C 231 14 0 (f := Z1 14) (wm_a14 bd c (upR (upR Z1 47 (fun _ => nI (σ.length))) 46 (fun _ => nI (v + 1))) L) rfl (by omega) (by decide) (wm_s14 bd c (upR (upR Z1 47 (fun _ => nI (σ.length))) 46 (fun _ => nI (v + 1))) L (upd (Z1 14) (l.length) (nI (0)))) dX8_go_231 ?_
            refine j_aload_n C 232 2 dX8_go_232 rfl rfl ?_
            refine j_dup C 233 dX8_go_233 rfl ?_
            refine j_get C 234 (ci := 8) hL rfl 0 (wm_o0 bd c (upR (upR (upR Z1 47 (fun _ => nI (σ.length))) 46 (fun _ => nI (v + 1))) 14 (upd (Z1 14) (l.length) (nI (0)))) L) 18 (by decide) f126 rfl (v := .int (Z1 45 0)) rfl dX8_go_234 ?_
            refine j_eqi h45 ?_
            refine j_iconst C 237 (v := nI 1) dX8_go_237 rfl ?_
            refine j_iadd_e C 238 dX8_go_238 (nI_add _ _) ?_
            refine j_put C 239 (ci := 8) hL tyX8_ok nmX8 rfl 0 (wm_o0 bd c (upR (upR (upR Z1 47 (fun _ => nI (σ.length))) 46 (fun _ => nI (v + 1))) 14 (upd (Z1 14) (l.length) (nI (0)))) L) 18 (by decide) f126 rfl rfl (tyX8_ok 18 (by decide)) rfl rfl (Nat.le_of_ble_eq_true rfl) (wm_p45 bd c (upR (upR (upR Z1 47 (fun _ => nI (σ.length))) 46 (fun _ => nI (v + 1))) 14 (upd (Z1 14) (l.length) (nI (0)))) L (nI (l.length + 1))) dX8_go_239 ?_
            refine j_aload_n C 242 2 dX8_go_242 rfl rfl ?_
            refine j_get C 243 (ci := 8) hL rfl 0 (wm_o0 bd c (upR (upR (upR (upR Z1 47 (fun _ => nI (σ.length))) 46 (fun _ => nI (v + 1))) 14 (upd (Z1 14) (l.length) (nI (0)))) 45 (fun _ => nI (l.length + 1))) L) 22 (by decide) f57 rfl (v := .ref (bd 15)) rfl dX8_go_243 ?_
            refine j_aload_n C 246 2 dX8_go_246 rfl rfl ?_
            refine j_get C 247 (ci := 8) hL rfl 0 (wm_o0 bd c (upR (upR (upR (upR Z1 47 (fun _ => nI (σ.length))) 46 (fun _ => nI (v + 1))) 14 (upd (Z1 14) (l.length) (nI (0)))) 45 (fun _ => nI (l.length + 1))) L) 21 (by decide) f116 rfl (v := .int (nI (σ.length))) rfl dX8_go_247 ?_
            refine j_iload_n C 250 0 dX8_go_250 rfl rfl ?_
            refine j_if_ne_n C 251 263 (by omega) dX8_go_251 (by decide) (fun h => absurd h (by omega)) (fun _ => ?_)
            refine j_aload_n C 254 2 dX8_go_254 rfl rfl ?_
            refine j_get C 255 (ci := 8) hL rfl 0 (wm_o0 bd c (upR (upR (upR (upR Z1 47 (fun _ => nI (σ.length))) 46 (fun _ => nI (v + 1))) 14 (upd (Z1 14) (l.length) (nI (0)))) 45 (fun _ => nI (l.length + 1))) L) 4 (by decide) f16 rfl (v := .ref (bd 3)) rfl dX8_go_255 ?_
            refine j_iload_n C 258 1 dX8_go_258 rfl rfl ?_
            refine j_iald C 259 3 0 (f := Z1 3) (wm_a3 bd c (upR (upR (upR (upR Z1 47 (fun _ => nI (σ.length))) 46 (fun _ => nI (v + 1))) 14 (upd (Z1 14) (l.length) (nI (0)))) 45 (fun _ => nI (l.length + 1))) L) rfl (by omega) (by decide) dX8_go_259 ?_
            refine j_eqi (g_EM_lf hE htn (by omega)) ?_
            refine j_goto C 260 269 dX8_go_260 (by decide) ?_
            refine j_iast C 269 15 0 (f := Z1 15) (wm_a15 bd c (upR (upR (upR (upR Z1 47 (fun _ => nI (σ.length))) 46 (fun _ => nI (v + 1))) 14 (upd (Z1 14) (l.length) (nI (0)))) 45 (fun _ => nI (l.length + 1))) L) rfl (by omega) (by decide) (wm_s15 bd c (upR (upR (upR (upR Z1 47 (fun _ => nI (σ.length))) 46 (fun _ => nI (v + 1))) 14 (upd (Z1 14) (l.length) (nI (0)))) 45 (fun _ => nI (l.length + 1))) L (upd (Z1 15) (σ.length) (nI (g_lf τ t)))) dX8_go_269 ?_
            refine j_aload_n C 270 2 dX8_go_270 rfl rfl ?_
            refine j_dup C 271 dX8_go_271 rfl ?_
            refine j_get C 272 (ci := 8) hL rfl 0 (wm_o0 bd c (upR (upR (upR (upR (upR Z1 47 (fun _ => nI (σ.length))) 46 (fun _ => nI (v + 1))) 14 (upd (Z1 14) (l.length) (nI (0)))) 45 (fun _ => nI (l.length + 1))) 15 (upd (Z1 15) (σ.length) (nI (g_lf τ t)))) L) 21 (by decide) f116 rfl (v := .int (nI (σ.length))) rfl dX8_go_272 ?_
            refine j_iconst C 275 (v := nI 1) dX8_go_275 rfl ?_
            refine j_iadd_e C 276 dX8_go_276 (nI_add _ _) ?_
            refine j_put C 277 (ci := 8) hL tyX8_ok nmX8 rfl 0 (wm_o0 bd c (upR (upR (upR (upR (upR Z1 47 (fun _ => nI (σ.length))) 46 (fun _ => nI (v + 1))) 14 (upd (Z1 14) (l.length) (nI (0)))) 45 (fun _ => nI (l.length + 1))) 15 (upd (Z1 15) (σ.length) (nI (g_lf τ t)))) L) 21 (by decide) f116 rfl rfl (tyX8_ok 21 (by decide)) rfl rfl (Nat.le_of_ble_eq_true rfl) (wm_p47 bd c (upR (upR (upR (upR (upR Z1 47 (fun _ => nI (σ.length))) 46 (fun _ => nI (v + 1))) 14 (upd (Z1 14) (l.length) (nI (0)))) 45 (fun _ => nI (l.length + 1))) 15 (upd (Z1 15) (σ.length) (nI (g_lf τ t)))) L (nI (σ.length + 1))) dX8_go_277 ?_
            refine j_goto C 280 0 dX8_go_280 (by decide) ?_
            have q := hQ t σ v l hq (by rw [g_st4 hk, if_neg (by omega), if_pos hc])
            rw [g_st4 hk, if_neg (by omega), if_pos hc] at q
            rw [if_pos hk] at q; rw [hc] at q
            exact j_lv [2, 3] rfl (ih _ (v + 1) _ (upR (upR (upR (upR (upR (upR Z1 47 (fun _ => nI (σ.length))) 46 (fun _ => nI (v + 1))) 14 (upd (Z1 14) (l.length) (nI (0)))) 45 (fun _ => nI (l.length + 1))) 15 (upd (Z1 15) (σ.length) (nI (g_lf τ t)))) 47 (fun _ => nI (σ.length + 1))) (by omega) q ⟨rfl, g_ar_p1 hpop.1, rfl, (by rw [List.length_append]; rfl), (g_ar_push h14 rfl)⟩ (g_fr_up (g_fr_up (g_fr_up (g_fr_up (g_fr_up (g_fr_up hfr (by decide) _) (by decide) _) (by decide) _) (by decide) _) (by decide) _) (by decide) _) _ rfl)
          · refine j_aload_n C 0 0 dX8_go_0 rfl rfl ?_
            refine j_get C 1 (ci := 8) hL rfl 0 (wm_o0 bd c Z1 L) 21 (by decide) f116 rfl (v := .int (Z1 47 0)) rfl dX8_go_1 ?_
            refine j_eqi h47b ?_
            refine j_if_le_n C 4 283 (by omega) dX8_go_4 (by decide) (fun h => absurd h (by omega)) (fun _ => ?_)
            refine j_aload_n C 7 0 dX8_go_7 rfl rfl ?_
            refine j_dup C 8 dX8_go_8 rfl ?_
            refine j_get C 9 (ci := 8) hL rfl 0 (wm_o0 bd c Z1 L) 21 (by decide) f116 rfl (v := .int (Z1 47 0)) rfl dX8_go_9 ?_
            refine j_eqi h47b ?_
            refine j_iconst C 12 (v := nI 1) dX8_go_12 rfl ?_
            refine j_isub_e C 13 dX8_go_13 (pk_sub (by omega)) ?_
            refine j_eqi (show nI (σ.length + 1 - 1) = nI σ.length by rw [Nat.add_sub_cancel]) ?_
            refine j_put C 14 (ci := 8) hL tyX8_ok nmX8 rfl 0 (wm_o0 bd c Z1 L) 21 (by decide) f116 rfl rfl (tyX8_ok 21 (by decide)) rfl rfl (Nat.le_of_ble_eq_true rfl) (wm_p47 bd c Z1 L (nI (σ.length))) dX8_go_14 ?_
            refine j_aload_n C 17 0 dX8_go_17 rfl rfl ?_
            refine j_get C 18 (ci := 8) hL rfl 0 (wm_o0 bd c (upR Z1 47 (fun _ => nI (σ.length))) L) 22 (by decide) f57 rfl (v := .ref (bd 15)) rfl dX8_go_18 ?_
            refine j_aload_n C 21 0 dX8_go_21 rfl rfl ?_
            refine j_get C 22 (ci := 8) hL rfl 0 (wm_o0 bd c (upR Z1 47 (fun _ => nI (σ.length))) L) 21 (by decide) f116 rfl (v := .int (nI (σ.length))) rfl dX8_go_22 ?_
            refine j_iald C 25 15 0 (f := Z1 15) (wm_a15 bd c (upR Z1 47 (fun _ => nI (σ.length))) L) rfl (by omega) (by decide) dX8_go_25 ?_
            refine j_eqi hpop.2 ?_
            refine j_istore_n C 26 (lv' := [(2, .int (nI (t))), (0, .ref (bd 0)), (1, .int (x))]) dX8_go_26 rfl (by rw [hn]; decide) rfl ?_
            refine j_aload_n C 27 1 dX8_go_27 rfl rfl ?_
            refine j_dup C 28 dX8_go_28 rfl ?_
            refine j_get C 29 (ci := 8) hL rfl 0 (wm_o0 bd c (upR Z1 47 (fun _ => nI (σ.length))) L) 20 (by decide) f119 rfl (v := .int (Z1 46 0)) rfl dX8_go_29 ?_
            refine j_eqi h46 ?_
            refine j_iconst C 32 (v := nI 1) dX8_go_32 rfl ?_
            refine j_iadd_e C 33 dX8_go_33 (nI_add _ _) ?_
            refine j_put C 34 (ci := 8) hL tyX8_ok nmX8 rfl 0 (wm_o0 bd c (upR Z1 47 (fun _ => nI (σ.length))) L) 20 (by decide) f119 rfl rfl (tyX8_ok 20 (by decide)) rfl rfl (Nat.le_of_ble_eq_true rfl) (wm_p46 bd c (upR Z1 47 (fun _ => nI (σ.length))) L (nI (v + 1))) dX8_go_34 ?_
            refine j_aload_n C 37 1 dX8_go_37 rfl rfl ?_
            refine j_get C 38 (ci := 8) hL rfl 0 (wm_o0 bd c (upR (upR Z1 47 (fun _ => nI (σ.length))) 46 (fun _ => nI (v + 1))) L) 2 (by decide) f7 rfl (v := .ref (bd 1)) rfl dX8_go_38 ?_
            refine j_iload_n C 41 0 dX8_go_41 rfl rfl ?_
            refine j_iald C 42 1 0 (f := Z1 1) (wm_a1 bd c (upR (upR Z1 47 (fun _ => nI (σ.length))) 46 (fun _ => nI (v + 1))) L) rfl (by omega) (by decide) dX8_go_42 ?_
            refine j_eqi (hE t htn).1 ?_
            refine j_iconst C 43 (v := nI 1) dX8_go_43 rfl ?_
            refine j_icmp_ne_n C 44 49 (by omega) (by omega) dX8_go_44 (by decide) (fun _ => ?_) (fun h => absurd h (by omega))
            refine j_aload_n C 49 1 dX8_go_49 rfl rfl ?_
            refine j_get C 50 (ci := 8) hL rfl 0 (wm_o0 bd c (upR (upR Z1 47 (fun _ => nI (σ.length))) 46 (fun _ => nI (v + 1))) L) 2 (by decide) f7 rfl (v := .ref (bd 1)) rfl dX8_go_50 ?_
            refine j_iload_n C 53 0 dX8_go_53 rfl rfl ?_
            refine j_iald C 54 1 0 (f := Z1 1) (wm_a1 bd c (upR (upR Z1 47 (fun _ => nI (σ.length))) 46 (fun _ => nI (v + 1))) L) rfl (by omega) (by decide) dX8_go_54 ?_
            refine j_eqi (hE t htn).1 ?_
            refine j_iconst C 55 (v := nI 2) dX8_go_55 rfl ?_
            refine j_icmp_ne_n C 56 75 (by omega) (by omega) dX8_go_56 (by decide) (fun _ => ?_) (fun h => absurd h (by omega))
            refine j_aload_n C 75 1 dX8_go_75 rfl rfl ?_
            refine j_get C 76 (ci := 8) hL rfl 0 (wm_o0 bd c (upR (upR Z1 47 (fun _ => nI (σ.length))) 46 (fun _ => nI (v + 1))) L) 2 (by decide) f7 rfl (v := .ref (bd 1)) rfl dX8_go_76 ?_
            refine j_iload_n C 79 0 dX8_go_79 rfl rfl ?_
            refine j_iald C 80 1 0 (f := Z1 1) (wm_a1 bd c (upR (upR Z1 47 (fun _ => nI (σ.length))) 46 (fun _ => nI (v + 1))) L) rfl (by omega) (by decide) dX8_go_80 ?_
            refine j_eqi (hE t htn).1 ?_
            refine j_iconst C 81 (v := nI 3) dX8_go_81 rfl ?_
            refine j_icmp_ne_n C 82 130 (by omega) (by omega) dX8_go_82 (by decide) (fun _ => ?_) (fun h => absurd h (by omega))
            refine j_aload_n C 130 1 dX8_go_130 rfl rfl ?_
            refine j_get C 131 (ci := 8) hL rfl 0 (wm_o0 bd c (upR (upR Z1 47 (fun _ => nI (σ.length))) 46 (fun _ => nI (v + 1))) L) 2 (by decide) f7 rfl (v := .ref (bd 1)) rfl dX8_go_131 ?_
            refine j_iload_n C 134 0 dX8_go_134 rfl rfl ?_
            refine j_iald C 135 1 0 (f := Z1 1) (wm_a1 bd c (upR (upR Z1 47 (fun _ => nI (σ.length))) 46 (fun _ => nI (v + 1))) L) rfl (by omega) (by decide) dX8_go_135 ?_
            refine j_eqi (hE t htn).1 ?_
            refine j_bipush C 136 (v := nI 6) dX8_go_136 rfl ?_
            refine j_icmp_eq_n C 138 151 (by omega) (by omega) dX8_go_138 (by decide) (fun h => absurd h (by omega)) (fun _ => ?_)
            refine j_aload_n C 141 1 dX8_go_141 rfl rfl ?_
            refine j_get C 142 (ci := 8) hL rfl 0 (wm_o0 bd c (upR (upR Z1 47 (fun _ => nI (σ.length))) 46 (fun _ => nI (v + 1))) L) 2 (by decide) f7 rfl (v := .ref (bd 1)) rfl dX8_go_142 ?_
            refine j_iload_n C 145 0 dX8_go_145 rfl rfl ?_
            refine j_iald C 146 1 0 (f := Z1 1) (wm_a1 bd c (upR (upR Z1 47 (fun _ => nI (σ.length))) 46 (fun _ => nI (v + 1))) L) rfl (by omega) (by decide) dX8_go_146 ?_
            refine j_eqi (hE t htn).1 ?_
            refine j_iconst C 147 (v := nI 5) dX8_go_147 rfl ?_
            refine j_icmp_ne_n C 148 199 (by omega) (by omega) dX8_go_148 (by decide) (fun _ => ?_) (fun h => absurd h (by omega))
            refine j_aload_n C 199 1 dX8_go_199 rfl rfl ?_
            refine j_get C 200 (ci := 8) hL rfl 0 (wm_o0 bd c (upR (upR Z1 47 (fun _ => nI (σ.length))) 46 (fun _ => nI (v + 1))) L) 2 (by decide) f7 rfl (v := .ref (bd 1)) rfl dX8_go_200 ?_
            refine j_iload_n C 203 0 dX8_go_203 rfl rfl ?_
            refine j_iald C 204 1 0 (f := Z1 1) (wm_a1 bd c (upR (upR Z1 47 (fun _ => nI (σ.length))) 46 (fun _ => nI (v + 1))) L) rfl (by omega) (by decide) dX8_go_204 ?_
            refine j_eqi (hE t htn).1 ?_
            refine j_iconst C 205 (v := nI 4) dX8_go_205 rfl ?_
            refine j_icmp_ne_n C 206 280 (by omega) (by omega) dX8_go_206 (by decide) (fun h => absurd h (by omega)) (fun _ => ?_)
            refine j_aload_n C 209 1 dX8_go_209 rfl rfl ?_
            refine j_iload_n C 210 0 dX8_go_210 rfl rfl ?_
            refine j_iload_n C 211 2 dX8_go_211 rfl rfl ?_
            refine j_callI (mc := 0) (ms := 0) C 212 (c_X8_choice (jl κ) D bd c (upR (upR Z1 47 (fun _ => nI (σ.length))) 46 (fun _ => nI (v + 1))) L S X t x hwf hr2 hE hY ht hk hx) gX8_go_X8_choice rfl rfl rfl hd_X8_choice (by rw [hR]; exact ⟨Nat.le_of_ble_eq_true rfl, Nat.le_of_ble_eq_true rfl⟩) (ci := 8) rfl 0 (wm_o0 bd c (upR (upR Z1 47 (fun _ => nI (σ.length))) 46 (fun _ => nI (v + 1))) L) rfl (Nat.le_of_ble_eq_true rfl) ⟨Nat.zero_le _, Nat.zero_le _⟩ dX8_go_212 (fun r212 _ e212 => ?_)
            refine j_eqi (y := nI 1) (e212.trans (by rw [hc]; rfl)) ?_
            refine j_istore_n C 215 (lv' := [(3, .int (nI (1))), (2, .int (nI (t))), (0, .ref (bd 0)), (1, .int (x))]) dX8_go_215 rfl (by rw [hn]; decide) rfl ?_
            refine j_iload_n C 216 0 dX8_go_216 rfl rfl ?_
            refine j_if_ge_n C 217 222 (by omega) dX8_go_217 (by decide) (fun _ => ?_) (fun h => absurd h (by omega))
            refine j_aload_n C 222 2 dX8_go_222 rfl rfl ?_
            refine j_get C 223 (ci := 8) hL rfl 0 (wm_o0 bd c (upR (upR Z1 47 (fun _ => nI (σ.length))) 46 (fun _ => nI (v + 1))) L) 19 (by decide) f54 rfl (v := .ref (bd 14)) rfl dX8_go_223 ?_
            refine j_aload_n C 226 2 dX8_go_226 rfl rfl ?_
            refine j_get C 227 (ci := 8) hL rfl 0 (wm_o0 bd c (upR (upR Z1 47 (fun _ => nI (σ.length))) 46 (fun _ => nI (v + 1))) L) 18 (by decide) f126 rfl (v := .int (Z1 45 0)) rfl dX8_go_227 ?_
            refine j_eqi h45 ?_
            refine j_iload_n C 230 0 dX8_go_230 rfl rfl ?_
            refine j_iast C 231 14 0 (f := Z1 14) (wm_a14 bd c (upR (upR Z1 47 (fun _ => nI (σ.length))) 46 (fun _ => nI (v + 1))) L) rfl (by omega) (by decide) (wm_s14 bd c (upR (upR Z1 47 (fun _ => nI (σ.length))) 46 (fun _ => nI (v + 1))) L (upd (Z1 14) (l.length) (nI (1)))) dX8_go_231 ?_
            refine j_aload_n C 232 2 dX8_go_232 rfl rfl ?_
            refine j_dup C 233 dX8_go_233 rfl ?_
            refine j_get C 234 (ci := 8) hL rfl 0 (wm_o0 bd c (upR (upR (upR Z1 47 (fun _ => nI (σ.length))) 46 (fun _ => nI (v + 1))) 14 (upd (Z1 14) (l.length) (nI (1)))) L) 18 (by decide) f126 rfl (v := .int (Z1 45 0)) rfl dX8_go_234 ?_
            refine j_eqi h45 ?_
            refine j_iconst C 237 (v := nI 1) dX8_go_237 rfl ?_
            refine j_iadd_e C 238 dX8_go_238 (nI_add _ _) ?_
            refine j_put C 239 (ci := 8) hL tyX8_ok nmX8 rfl 0 (wm_o0 bd c (upR (upR (upR Z1 47 (fun _ => nI (σ.length))) 46 (fun _ => nI (v + 1))) 14 (upd (Z1 14) (l.length) (nI (1)))) L) 18 (by decide) f126 rfl rfl (tyX8_ok 18 (by decide)) rfl rfl (Nat.le_of_ble_eq_true rfl) (wm_p45 bd c (upR (upR (upR Z1 47 (fun _ => nI (σ.length))) 46 (fun _ => nI (v + 1))) 14 (upd (Z1 14) (l.length) (nI (1)))) L (nI (l.length + 1))) dX8_go_239 ?_
            refine j_aload_n C 242 2 dX8_go_242 rfl rfl ?_
            refine j_get C 243 (ci := 8) hL rfl 0 (wm_o0 bd c (upR (upR (upR (upR Z1 47 (fun _ => nI (σ.length))) 46 (fun _ => nI (v + 1))) 14 (upd (Z1 14) (l.length) (nI (1)))) 45 (fun _ => nI (l.length + 1))) L) 22 (by decide) f57 rfl (v := .ref (bd 15)) rfl dX8_go_243 ?_
            refine j_aload_n C 246 2 dX8_go_246 rfl rfl ?_
            refine j_get C 247 (ci := 8) hL rfl 0 (wm_o0 bd c (upR (upR (upR (upR Z1 47 (fun _ => nI (σ.length))) 46 (fun _ => nI (v + 1))) 14 (upd (Z1 14) (l.length) (nI (1)))) 45 (fun _ => nI (l.length + 1))) L) 21 (by decide) f116 rfl (v := .int (nI (σ.length))) rfl dX8_go_247 ?_
            refine j_iload_n C 250 0 dX8_go_250 rfl rfl ?_
            refine j_if_ne_n C 251 263 (by omega) dX8_go_251 (by decide) (fun _ => ?_) (fun h => absurd h (by omega))
            refine j_aload_n C 263 2 dX8_go_263 rfl rfl ?_
            refine j_get C 264 (ci := 8) hL rfl 0 (wm_o0 bd c (upR (upR (upR (upR Z1 47 (fun _ => nI (σ.length))) 46 (fun _ => nI (v + 1))) 14 (upd (Z1 14) (l.length) (nI (1)))) 45 (fun _ => nI (l.length + 1))) L) 5 (by decide) f19 rfl (v := .ref (bd 4)) rfl dX8_go_264 ?_
            refine j_iload_n C 267 1 dX8_go_267 rfl rfl ?_
            refine j_iald C 268 4 0 (f := Z1 4) (wm_a4 bd c (upR (upR (upR (upR Z1 47 (fun _ => nI (σ.length))) 46 (fun _ => nI (v + 1))) 14 (upd (Z1 14) (l.length) (nI (1)))) 45 (fun _ => nI (l.length + 1))) L) rfl (by omega) (by decide) dX8_go_268 ?_
            refine j_eqi (g_EM_rt hE htn (by omega)) ?_
            refine j_iast C 269 15 0 (f := Z1 15) (wm_a15 bd c (upR (upR (upR (upR Z1 47 (fun _ => nI (σ.length))) 46 (fun _ => nI (v + 1))) 14 (upd (Z1 14) (l.length) (nI (1)))) 45 (fun _ => nI (l.length + 1))) L) rfl (by omega) (by decide) (wm_s15 bd c (upR (upR (upR (upR Z1 47 (fun _ => nI (σ.length))) 46 (fun _ => nI (v + 1))) 14 (upd (Z1 14) (l.length) (nI (1)))) 45 (fun _ => nI (l.length + 1))) L (upd (Z1 15) (σ.length) (nI (g_rt τ t)))) dX8_go_269 ?_
            refine j_aload_n C 270 2 dX8_go_270 rfl rfl ?_
            refine j_dup C 271 dX8_go_271 rfl ?_
            refine j_get C 272 (ci := 8) hL rfl 0 (wm_o0 bd c (upR (upR (upR (upR (upR Z1 47 (fun _ => nI (σ.length))) 46 (fun _ => nI (v + 1))) 14 (upd (Z1 14) (l.length) (nI (1)))) 45 (fun _ => nI (l.length + 1))) 15 (upd (Z1 15) (σ.length) (nI (g_rt τ t)))) L) 21 (by decide) f116 rfl (v := .int (nI (σ.length))) rfl dX8_go_272 ?_
            refine j_iconst C 275 (v := nI 1) dX8_go_275 rfl ?_
            refine j_iadd_e C 276 dX8_go_276 (nI_add _ _) ?_
            refine j_put C 277 (ci := 8) hL tyX8_ok nmX8 rfl 0 (wm_o0 bd c (upR (upR (upR (upR (upR Z1 47 (fun _ => nI (σ.length))) 46 (fun _ => nI (v + 1))) 14 (upd (Z1 14) (l.length) (nI (1)))) 45 (fun _ => nI (l.length + 1))) 15 (upd (Z1 15) (σ.length) (nI (g_rt τ t)))) L) 21 (by decide) f116 rfl rfl (tyX8_ok 21 (by decide)) rfl rfl (Nat.le_of_ble_eq_true rfl) (wm_p47 bd c (upR (upR (upR (upR (upR Z1 47 (fun _ => nI (σ.length))) 46 (fun _ => nI (v + 1))) 14 (upd (Z1 14) (l.length) (nI (1)))) 45 (fun _ => nI (l.length + 1))) 15 (upd (Z1 15) (σ.length) (nI (g_rt τ t)))) L (nI (σ.length + 1))) dX8_go_277 ?_
            refine j_goto C 280 0 dX8_go_280 (by decide) ?_
            have q := hQ t σ v l hq (by rw [g_st4 hk, if_neg (by omega), if_neg (by omega)])
            rw [g_st4 hk, if_neg (by omega), if_neg (by omega)] at q
            rw [if_pos hk] at q; rw [hc] at q
            exact j_lv [2, 3] rfl (ih _ (v + 1) _ (upR (upR (upR (upR (upR (upR Z1 47 (fun _ => nI (σ.length))) 46 (fun _ => nI (v + 1))) 14 (upd (Z1 14) (l.length) (nI (1)))) 45 (fun _ => nI (l.length + 1))) 15 (upd (Z1 15) (σ.length) (nI (g_rt τ t)))) 47 (fun _ => nI (σ.length + 1))) (by omega) q ⟨rfl, g_ar_p1 hpop.1, rfl, (by rw [List.length_append]; rfl), (g_ar_push h14 rfl)⟩ (g_fr_up (g_fr_up (g_fr_up (g_fr_up (g_fr_up (g_fr_up hfr (by decide) _) (by decide) _) (by decide) _) (by decide) _) (by decide) _) (by decide) _) _ rfl)
          · refine j_aload_n C 0 0 dX8_go_0 rfl rfl ?_
            refine j_get C 1 (ci := 8) hL rfl 0 (wm_o0 bd c Z1 L) 21 (by decide) f116 rfl (v := .int (Z1 47 0)) rfl dX8_go_1 ?_
            refine j_eqi h47b ?_
            refine j_if_le_n C 4 283 (by omega) dX8_go_4 (by decide) (fun h => absurd h (by omega)) (fun _ => ?_)
            refine j_aload_n C 7 0 dX8_go_7 rfl rfl ?_
            refine j_dup C 8 dX8_go_8 rfl ?_
            refine j_get C 9 (ci := 8) hL rfl 0 (wm_o0 bd c Z1 L) 21 (by decide) f116 rfl (v := .int (Z1 47 0)) rfl dX8_go_9 ?_
            refine j_eqi h47b ?_
            refine j_iconst C 12 (v := nI 1) dX8_go_12 rfl ?_
            refine j_isub_e C 13 dX8_go_13 (pk_sub (by omega)) ?_
            refine j_eqi (show nI (σ.length + 1 - 1) = nI σ.length by rw [Nat.add_sub_cancel]) ?_
            refine j_put C 14 (ci := 8) hL tyX8_ok nmX8 rfl 0 (wm_o0 bd c Z1 L) 21 (by decide) f116 rfl rfl (tyX8_ok 21 (by decide)) rfl rfl (Nat.le_of_ble_eq_true rfl) (wm_p47 bd c Z1 L (nI (σ.length))) dX8_go_14 ?_
            refine j_aload_n C 17 0 dX8_go_17 rfl rfl ?_
            refine j_get C 18 (ci := 8) hL rfl 0 (wm_o0 bd c (upR Z1 47 (fun _ => nI (σ.length))) L) 22 (by decide) f57 rfl (v := .ref (bd 15)) rfl dX8_go_18 ?_
            refine j_aload_n C 21 0 dX8_go_21 rfl rfl ?_
            refine j_get C 22 (ci := 8) hL rfl 0 (wm_o0 bd c (upR Z1 47 (fun _ => nI (σ.length))) L) 21 (by decide) f116 rfl (v := .int (nI (σ.length))) rfl dX8_go_22 ?_
            refine j_iald C 25 15 0 (f := Z1 15) (wm_a15 bd c (upR Z1 47 (fun _ => nI (σ.length))) L) rfl (by omega) (by decide) dX8_go_25 ?_
            refine j_eqi hpop.2 ?_
            refine j_istore_n C 26 (lv' := [(2, .int (nI (t))), (0, .ref (bd 0)), (1, .int (x))]) dX8_go_26 rfl (by rw [hn]; decide) rfl ?_
            refine j_aload_n C 27 1 dX8_go_27 rfl rfl ?_
            refine j_dup C 28 dX8_go_28 rfl ?_
            refine j_get C 29 (ci := 8) hL rfl 0 (wm_o0 bd c (upR Z1 47 (fun _ => nI (σ.length))) L) 20 (by decide) f119 rfl (v := .int (Z1 46 0)) rfl dX8_go_29 ?_
            refine j_eqi h46 ?_
            refine j_iconst C 32 (v := nI 1) dX8_go_32 rfl ?_
            refine j_iadd_e C 33 dX8_go_33 (nI_add _ _) ?_
            refine j_put C 34 (ci := 8) hL tyX8_ok nmX8 rfl 0 (wm_o0 bd c (upR Z1 47 (fun _ => nI (σ.length))) L) 20 (by decide) f119 rfl rfl (tyX8_ok 20 (by decide)) rfl rfl (Nat.le_of_ble_eq_true rfl) (wm_p46 bd c (upR Z1 47 (fun _ => nI (σ.length))) L (nI (v + 1))) dX8_go_34 ?_
            refine j_aload_n C 37 1 dX8_go_37 rfl rfl ?_
            refine j_get C 38 (ci := 8) hL rfl 0 (wm_o0 bd c (upR (upR Z1 47 (fun _ => nI (σ.length))) 46 (fun _ => nI (v + 1))) L) 2 (by decide) f7 rfl (v := .ref (bd 1)) rfl dX8_go_38 ?_
            refine j_iload_n C 41 0 dX8_go_41 rfl rfl ?_
            refine j_iald C 42 1 0 (f := Z1 1) (wm_a1 bd c (upR (upR Z1 47 (fun _ => nI (σ.length))) 46 (fun _ => nI (v + 1))) L) rfl (by omega) (by decide) dX8_go_42 ?_
            refine j_eqi (hE t htn).1 ?_
            refine j_iconst C 43 (v := nI 1) dX8_go_43 rfl ?_
            refine j_icmp_ne_n C 44 49 (by omega) (by omega) dX8_go_44 (by decide) (fun _ => ?_) (fun h => absurd h (by omega))
            refine j_aload_n C 49 1 dX8_go_49 rfl rfl ?_
            refine j_get C 50 (ci := 8) hL rfl 0 (wm_o0 bd c (upR (upR Z1 47 (fun _ => nI (σ.length))) 46 (fun _ => nI (v + 1))) L) 2 (by decide) f7 rfl (v := .ref (bd 1)) rfl dX8_go_50 ?_
            refine j_iload_n C 53 0 dX8_go_53 rfl rfl ?_
            refine j_iald C 54 1 0 (f := Z1 1) (wm_a1 bd c (upR (upR Z1 47 (fun _ => nI (σ.length))) 46 (fun _ => nI (v + 1))) L) rfl (by omega) (by decide) dX8_go_54 ?_
            refine j_eqi (hE t htn).1 ?_
            refine j_iconst C 55 (v := nI 2) dX8_go_55 rfl ?_
            refine j_icmp_ne_n C 56 75 (by omega) (by omega) dX8_go_56 (by decide) (fun _ => ?_) (fun h => absurd h (by omega))
            refine j_aload_n C 75 1 dX8_go_75 rfl rfl ?_
            refine j_get C 76 (ci := 8) hL rfl 0 (wm_o0 bd c (upR (upR Z1 47 (fun _ => nI (σ.length))) 46 (fun _ => nI (v + 1))) L) 2 (by decide) f7 rfl (v := .ref (bd 1)) rfl dX8_go_76 ?_
            refine j_iload_n C 79 0 dX8_go_79 rfl rfl ?_
            refine j_iald C 80 1 0 (f := Z1 1) (wm_a1 bd c (upR (upR Z1 47 (fun _ => nI (σ.length))) 46 (fun _ => nI (v + 1))) L) rfl (by omega) (by decide) dX8_go_80 ?_
            refine j_eqi (hE t htn).1 ?_
            refine j_iconst C 81 (v := nI 3) dX8_go_81 rfl ?_
            refine j_icmp_ne_n C 82 130 (by omega) (by omega) dX8_go_82 (by decide) (fun _ => ?_) (fun h => absurd h (by omega))
            refine j_aload_n C 130 1 dX8_go_130 rfl rfl ?_
            refine j_get C 131 (ci := 8) hL rfl 0 (wm_o0 bd c (upR (upR Z1 47 (fun _ => nI (σ.length))) 46 (fun _ => nI (v + 1))) L) 2 (by decide) f7 rfl (v := .ref (bd 1)) rfl dX8_go_131 ?_
            refine j_iload_n C 134 0 dX8_go_134 rfl rfl ?_
            refine j_iald C 135 1 0 (f := Z1 1) (wm_a1 bd c (upR (upR Z1 47 (fun _ => nI (σ.length))) 46 (fun _ => nI (v + 1))) L) rfl (by omega) (by decide) dX8_go_135 ?_
            refine j_eqi (hE t htn).1 ?_
            refine j_bipush C 136 (v := nI 6) dX8_go_136 rfl ?_
            refine j_icmp_eq_n C 138 151 (by omega) (by omega) dX8_go_138 (by decide) (fun h => absurd h (by omega)) (fun _ => ?_)
            refine j_aload_n C 141 1 dX8_go_141 rfl rfl ?_
            refine j_get C 142 (ci := 8) hL rfl 0 (wm_o0 bd c (upR (upR Z1 47 (fun _ => nI (σ.length))) 46 (fun _ => nI (v + 1))) L) 2 (by decide) f7 rfl (v := .ref (bd 1)) rfl dX8_go_142 ?_
            refine j_iload_n C 145 0 dX8_go_145 rfl rfl ?_
            refine j_iald C 146 1 0 (f := Z1 1) (wm_a1 bd c (upR (upR Z1 47 (fun _ => nI (σ.length))) 46 (fun _ => nI (v + 1))) L) rfl (by omega) (by decide) dX8_go_146 ?_
            refine j_eqi (hE t htn).1 ?_
            refine j_iconst C 147 (v := nI 5) dX8_go_147 rfl ?_
            refine j_icmp_ne_n C 148 199 (by omega) (by omega) dX8_go_148 (by decide) (fun _ => ?_) (fun h => absurd h (by omega))
            refine j_aload_n C 199 1 dX8_go_199 rfl rfl ?_
            refine j_get C 200 (ci := 8) hL rfl 0 (wm_o0 bd c (upR (upR Z1 47 (fun _ => nI (σ.length))) 46 (fun _ => nI (v + 1))) L) 2 (by decide) f7 rfl (v := .ref (bd 1)) rfl dX8_go_200 ?_
            refine j_iload_n C 203 0 dX8_go_203 rfl rfl ?_
            refine j_iald C 204 1 0 (f := Z1 1) (wm_a1 bd c (upR (upR Z1 47 (fun _ => nI (σ.length))) 46 (fun _ => nI (v + 1))) L) rfl (by omega) (by decide) dX8_go_204 ?_
            refine j_eqi (hE t htn).1 ?_
            refine j_iconst C 205 (v := nI 4) dX8_go_205 rfl ?_
            refine j_icmp_ne_n C 206 280 (by omega) (by omega) dX8_go_206 (by decide) (fun h => absurd h (by omega)) (fun _ => ?_)
            refine j_aload_n C 209 1 dX8_go_209 rfl rfl ?_
            refine j_iload_n C 210 0 dX8_go_210 rfl rfl ?_
            refine j_iload_n C 211 2 dX8_go_211 rfl rfl ?_
            refine j_callI (mc := 0) (ms := 0) C 212 (c_X8_choice (jl κ) D bd c (upR (upR Z1 47 (fun _ => nI (σ.length))) 46 (fun _ => nI (v + 1))) L S X t x hwf hr2 hE hY ht hk hx) gX8_go_X8_choice rfl rfl rfl hd_X8_choice (by rw [hR]; exact ⟨Nat.le_of_ble_eq_true rfl, Nat.le_of_ble_eq_true rfl⟩) (ci := 8) rfl 0 (wm_o0 bd c (upR (upR Z1 47 (fun _ => nI (σ.length))) 46 (fun _ => nI (v + 1))) L) rfl (Nat.le_of_ble_eq_true rfl) ⟨Nat.zero_le _, Nat.zero_le _⟩ dX8_go_212 (fun r212 _ e212 => ?_)
            refine j_eqi (y := -1) (e212.trans (by rw [hc]; rfl)) ?_
            refine j_istore_n C 215 (lv' := [(3, .int (-1)), (2, .int (nI (t))), (0, .ref (bd 0)), (1, .int (x))]) dX8_go_215 rfl (by rw [hn]; decide) rfl ?_
            refine j_iload_n C 216 0 dX8_go_216 rfl rfl ?_
            refine j_if_ge C 217 222 dX8_go_217 (by decide) (fun h => absurd h (by decide)) (fun _ => ?_)
            refine j_iconst C 220 (v := -1) dX8_go_220 rfl ?_
            exact j_ireti C hr E (Nat.le_refl _) (Nat.le_refl _) rfl (upR (upR Z1 47 (fun _ => nI (σ.length))) 46 (fun _ => nI (v + 1))) ⟨⟨t :: σ, v, l, hq, Or.inr (Or.inr ⟨t, σ, rfl, by rw [g_st4 hk, if_pos hc], rfl⟩)⟩, (g_fr_up (g_fr_up hfr (by decide) _) (by decide) _)⟩ rfl dX8_go_221
        · obtain ⟨k5, hb5, -⟩ := (hT.2.2 t ht).1 hk
          have hk5n := g_P_lt hwf hr2 (g_B_some hwf hr2 _ _ ht (Nat.le_refl _) hb5).2.2.2.1
          refine j_aload_n C 0 0 dX8_go_0 rfl rfl ?_
          refine j_get C 1 (ci := 8) hL rfl 0 (wm_o0 bd c Z1 L) 21 (by decide) f116 rfl (v := .int (Z1 47 0)) rfl dX8_go_1 ?_
          refine j_eqi h47b ?_
          refine j_if_le_n C 4 283 (by omega) dX8_go_4 (by decide) (fun h => absurd h (by omega)) (fun _ => ?_)
          refine j_aload_n C 7 0 dX8_go_7 rfl rfl ?_
          refine j_dup C 8 dX8_go_8 rfl ?_
          refine j_get C 9 (ci := 8) hL rfl 0 (wm_o0 bd c Z1 L) 21 (by decide) f116 rfl (v := .int (Z1 47 0)) rfl dX8_go_9 ?_
          refine j_eqi h47b ?_
          refine j_iconst C 12 (v := nI 1) dX8_go_12 rfl ?_
          refine j_isub_e C 13 dX8_go_13 (pk_sub (by omega)) ?_
          refine j_eqi (show nI (σ.length + 1 - 1) = nI σ.length by rw [Nat.add_sub_cancel]) ?_
          refine j_put C 14 (ci := 8) hL tyX8_ok nmX8 rfl 0 (wm_o0 bd c Z1 L) 21 (by decide) f116 rfl rfl (tyX8_ok 21 (by decide)) rfl rfl (Nat.le_of_ble_eq_true rfl) (wm_p47 bd c Z1 L (nI (σ.length))) dX8_go_14 ?_
          refine j_aload_n C 17 0 dX8_go_17 rfl rfl ?_
          refine j_get C 18 (ci := 8) hL rfl 0 (wm_o0 bd c (upR Z1 47 (fun _ => nI (σ.length))) L) 22 (by decide) f57 rfl (v := .ref (bd 15)) rfl dX8_go_18 ?_
          refine j_aload_n C 21 0 dX8_go_21 rfl rfl ?_
          refine j_get C 22 (ci := 8) hL rfl 0 (wm_o0 bd c (upR Z1 47 (fun _ => nI (σ.length))) L) 21 (by decide) f116 rfl (v := .int (nI (σ.length))) rfl dX8_go_22 ?_
          refine j_iald C 25 15 0 (f := Z1 15) (wm_a15 bd c (upR Z1 47 (fun _ => nI (σ.length))) L) rfl (by omega) (by decide) dX8_go_25 ?_
          refine j_eqi hpop.2 ?_
          refine j_istore_n C 26 (lv' := [(2, .int (nI (t))), (0, .ref (bd 0)), (1, .int (x))]) dX8_go_26 rfl (by rw [hn]; decide) rfl ?_
          refine j_aload_n C 27 1 dX8_go_27 rfl rfl ?_
          refine j_dup C 28 dX8_go_28 rfl ?_
          refine j_get C 29 (ci := 8) hL rfl 0 (wm_o0 bd c (upR Z1 47 (fun _ => nI (σ.length))) L) 20 (by decide) f119 rfl (v := .int (Z1 46 0)) rfl dX8_go_29 ?_
          refine j_eqi h46 ?_
          refine j_iconst C 32 (v := nI 1) dX8_go_32 rfl ?_
          refine j_iadd_e C 33 dX8_go_33 (nI_add _ _) ?_
          refine j_put C 34 (ci := 8) hL tyX8_ok nmX8 rfl 0 (wm_o0 bd c (upR Z1 47 (fun _ => nI (σ.length))) L) 20 (by decide) f119 rfl rfl (tyX8_ok 20 (by decide)) rfl rfl (Nat.le_of_ble_eq_true rfl) (wm_p46 bd c (upR Z1 47 (fun _ => nI (σ.length))) L (nI (v + 1))) dX8_go_34 ?_
          refine j_aload_n C 37 1 dX8_go_37 rfl rfl ?_
          refine j_get C 38 (ci := 8) hL rfl 0 (wm_o0 bd c (upR (upR Z1 47 (fun _ => nI (σ.length))) 46 (fun _ => nI (v + 1))) L) 2 (by decide) f7 rfl (v := .ref (bd 1)) rfl dX8_go_38 ?_
          refine j_iload_n C 41 0 dX8_go_41 rfl rfl ?_
          refine j_iald C 42 1 0 (f := Z1 1) (wm_a1 bd c (upR (upR Z1 47 (fun _ => nI (σ.length))) 46 (fun _ => nI (v + 1))) L) rfl (by omega) (by decide) dX8_go_42 ?_
          refine j_eqi (hE t htn).1 ?_
          refine j_iconst C 43 (v := nI 1) dX8_go_43 rfl ?_
          refine j_icmp_ne_n C 44 49 (by omega) (by omega) dX8_go_44 (by decide) (fun _ => ?_) (fun h => absurd h (by omega))
          refine j_aload_n C 49 1 dX8_go_49 rfl rfl ?_
          refine j_get C 50 (ci := 8) hL rfl 0 (wm_o0 bd c (upR (upR Z1 47 (fun _ => nI (σ.length))) 46 (fun _ => nI (v + 1))) L) 2 (by decide) f7 rfl (v := .ref (bd 1)) rfl dX8_go_50 ?_
          refine j_iload_n C 53 0 dX8_go_53 rfl rfl ?_
          refine j_iald C 54 1 0 (f := Z1 1) (wm_a1 bd c (upR (upR Z1 47 (fun _ => nI (σ.length))) 46 (fun _ => nI (v + 1))) L) rfl (by omega) (by decide) dX8_go_54 ?_
          refine j_eqi (hE t htn).1 ?_
          refine j_iconst C 55 (v := nI 2) dX8_go_55 rfl ?_
          refine j_icmp_ne_n C 56 75 (by omega) (by omega) dX8_go_56 (by decide) (fun _ => ?_) (fun h => absurd h (by omega))
          refine j_aload_n C 75 1 dX8_go_75 rfl rfl ?_
          refine j_get C 76 (ci := 8) hL rfl 0 (wm_o0 bd c (upR (upR Z1 47 (fun _ => nI (σ.length))) 46 (fun _ => nI (v + 1))) L) 2 (by decide) f7 rfl (v := .ref (bd 1)) rfl dX8_go_76 ?_
          refine j_iload_n C 79 0 dX8_go_79 rfl rfl ?_
          refine j_iald C 80 1 0 (f := Z1 1) (wm_a1 bd c (upR (upR Z1 47 (fun _ => nI (σ.length))) 46 (fun _ => nI (v + 1))) L) rfl (by omega) (by decide) dX8_go_80 ?_
          refine j_eqi (hE t htn).1 ?_
          refine j_iconst C 81 (v := nI 3) dX8_go_81 rfl ?_
          refine j_icmp_ne_n C 82 130 (by omega) (by omega) dX8_go_82 (by decide) (fun _ => ?_) (fun h => absurd h (by omega))
          refine j_aload_n C 130 1 dX8_go_130 rfl rfl ?_
          refine j_get C 131 (ci := 8) hL rfl 0 (wm_o0 bd c (upR (upR Z1 47 (fun _ => nI (σ.length))) 46 (fun _ => nI (v + 1))) L) 2 (by decide) f7 rfl (v := .ref (bd 1)) rfl dX8_go_131 ?_
          refine j_iload_n C 134 0 dX8_go_134 rfl rfl ?_
          refine j_iald C 135 1 0 (f := Z1 1) (wm_a1 bd c (upR (upR Z1 47 (fun _ => nI (σ.length))) 46 (fun _ => nI (v + 1))) L) rfl (by omega) (by decide) dX8_go_135 ?_
          refine j_eqi (hE t htn).1 ?_
          refine j_bipush C 136 (v := nI 6) dX8_go_136 rfl ?_
          refine j_icmp_eq_n C 138 151 (by omega) (by omega) dX8_go_138 (by decide) (fun h => absurd h (by omega)) (fun _ => ?_)
          refine j_aload_n C 141 1 dX8_go_141 rfl rfl ?_
          refine j_get C 142 (ci := 8) hL rfl 0 (wm_o0 bd c (upR (upR Z1 47 (fun _ => nI (σ.length))) 46 (fun _ => nI (v + 1))) L) 2 (by decide) f7 rfl (v := .ref (bd 1)) rfl dX8_go_142 ?_
          refine j_iload_n C 145 0 dX8_go_145 rfl rfl ?_
          refine j_iald C 146 1 0 (f := Z1 1) (wm_a1 bd c (upR (upR Z1 47 (fun _ => nI (σ.length))) 46 (fun _ => nI (v + 1))) L) rfl (by omega) (by decide) dX8_go_146 ?_
          refine j_eqi (hE t htn).1 ?_
          refine j_iconst C 147 (v := nI 5) dX8_go_147 rfl ?_
          refine j_icmp_ne_n C 148 199 (by omega) (by omega) dX8_go_148 (by decide) (fun h => absurd h (by omega)) (fun _ => ?_)
          refine j_aload_n C 151 1 dX8_go_151 rfl rfl ?_
          refine j_get C 152 (ci := 8) hL rfl 0 (wm_o0 bd c (upR (upR Z1 47 (fun _ => nI (σ.length))) 46 (fun _ => nI (v + 1))) L) 22 (by decide) f57 rfl (v := .ref (bd 15)) rfl dX8_go_152 ?_
          refine j_aload_n C 155 1 dX8_go_155 rfl rfl ?_
          refine j_get C 156 (ci := 8) hL rfl 0 (wm_o0 bd c (upR (upR Z1 47 (fun _ => nI (σ.length))) 46 (fun _ => nI (v + 1))) L) 21 (by decide) f116 rfl (v := .int (nI (σ.length))) rfl dX8_go_156 ?_
          refine j_aload_n C 159 1 dX8_go_159 rfl rfl ?_
          refine j_get C 160 (ci := 8) hL rfl 0 (wm_o0 bd c (upR (upR Z1 47 (fun _ => nI (σ.length))) 46 (fun _ => nI (v + 1))) L) 2 (by decide) f7 rfl (v := .ref (bd 1)) rfl dX8_go_160 ?_
          refine j_iload_n C 163 0 dX8_go_163 rfl rfl ?_
          refine j_iald C 164 1 0 (f := Z1 1) (wm_a1 bd c (upR (upR Z1 47 (fun _ => nI (σ.length))) 46 (fun _ => nI (v + 1))) L) rfl (by omega) (by decide) dX8_go_164 ?_
          refine j_eqi (hE t htn).1 ?_
          refine j_bipush C 165 (v := nI 6) dX8_go_165 rfl ?_
          refine j_icmp_ne_n C 167 179 (by omega) (by omega) dX8_go_167 (by decide) (fun _ => ?_) (fun h => absurd h (by omega))
          refine j_aload_n C 179 1 dX8_go_179 rfl rfl ?_
          refine j_get C 180 (ci := 8) hL rfl 0 (wm_o0 bd c (upR (upR Z1 47 (fun _ => nI (σ.length))) 46 (fun _ => nI (v + 1))) L) 12 (by decide) f41 rfl (v := .ref (bd 11)) rfl dX8_go_180 ?_
          refine j_iload_n C 183 0 dX8_go_183 rfl rfl ?_
          refine j_iald C 184 11 0 (f := Z1 11) (wm_a11 bd c (upR (upR Z1 47 (fun _ => nI (σ.length))) 46 (fun _ => nI (v + 1))) L) rfl (by omega) (by decide) dX8_go_184 ?_
          refine j_eqi ((hB t ht hk).trans (by rw [hb5]; first | done | rfl)) ?_
          refine j_iast C 185 15 0 (f := Z1 15) (wm_a15 bd c (upR (upR Z1 47 (fun _ => nI (σ.length))) 46 (fun _ => nI (v + 1))) L) rfl (by omega) (by decide) (wm_s15 bd c (upR (upR Z1 47 (fun _ => nI (σ.length))) 46 (fun _ => nI (v + 1))) L (upd (Z1 15) (σ.length) (nI (k5)))) dX8_go_185 ?_
          refine j_aload_n C 186 1 dX8_go_186 rfl rfl ?_
          refine j_dup C 187 dX8_go_187 rfl ?_
          refine j_get C 188 (ci := 8) hL rfl 0 (wm_o0 bd c (upR (upR (upR Z1 47 (fun _ => nI (σ.length))) 46 (fun _ => nI (v + 1))) 15 (upd (Z1 15) (σ.length) (nI (k5)))) L) 21 (by decide) f116 rfl (v := .int (nI (σ.length))) rfl dX8_go_188 ?_
          refine j_iconst C 191 (v := nI 1) dX8_go_191 rfl ?_
          refine j_iadd_e C 192 dX8_go_192 (nI_add _ _) ?_
          refine j_put C 193 (ci := 8) hL tyX8_ok nmX8 rfl 0 (wm_o0 bd c (upR (upR (upR Z1 47 (fun _ => nI (σ.length))) 46 (fun _ => nI (v + 1))) 15 (upd (Z1 15) (σ.length) (nI (k5)))) L) 21 (by decide) f116 rfl rfl (tyX8_ok 21 (by decide)) rfl rfl (Nat.le_of_ble_eq_true rfl) (wm_p47 bd c (upR (upR (upR Z1 47 (fun _ => nI (σ.length))) 46 (fun _ => nI (v + 1))) 15 (upd (Z1 15) (σ.length) (nI (k5)))) L (nI (σ.length + 1))) dX8_go_193 ?_
          refine j_goto C 196 280 dX8_go_196 (by decide) ?_
          refine j_goto C 280 0 dX8_go_280 (by decide) ?_
          have q := hQ t σ v l hq (by rw [g_st5 hk, hb5])
          rw [g_st5 hk, hb5] at q
          rw [if_neg (by omega)] at q
          exact j_lv [1, 2] rfl (ih _ (v + 1) _ (upR (upR (upR (upR Z1 47 (fun _ => nI (σ.length))) 46 (fun _ => nI (v + 1))) 15 (upd (Z1 15) (σ.length) (nI (k5)))) 47 (fun _ => nI (σ.length + 1))) (by omega) q ⟨rfl, g_ar_p1 hpop.1, rfl, h45, h14⟩ (g_fr_up (g_fr_up (g_fr_up (g_fr_up hfr (by decide) _) (by decide) _) (by decide) _) (by decide) _) _ rfl)
        · have hlP := g_lfP hwf hr2 ht (by omega)
          refine j_aload_n C 0 0 dX8_go_0 rfl rfl ?_
          refine j_get C 1 (ci := 8) hL rfl 0 (wm_o0 bd c Z1 L) 21 (by decide) f116 rfl (v := .int (Z1 47 0)) rfl dX8_go_1 ?_
          refine j_eqi h47b ?_
          refine j_if_le_n C 4 283 (by omega) dX8_go_4 (by decide) (fun h => absurd h (by omega)) (fun _ => ?_)
          refine j_aload_n C 7 0 dX8_go_7 rfl rfl ?_
          refine j_dup C 8 dX8_go_8 rfl ?_
          refine j_get C 9 (ci := 8) hL rfl 0 (wm_o0 bd c Z1 L) 21 (by decide) f116 rfl (v := .int (Z1 47 0)) rfl dX8_go_9 ?_
          refine j_eqi h47b ?_
          refine j_iconst C 12 (v := nI 1) dX8_go_12 rfl ?_
          refine j_isub_e C 13 dX8_go_13 (pk_sub (by omega)) ?_
          refine j_eqi (show nI (σ.length + 1 - 1) = nI σ.length by rw [Nat.add_sub_cancel]) ?_
          refine j_put C 14 (ci := 8) hL tyX8_ok nmX8 rfl 0 (wm_o0 bd c Z1 L) 21 (by decide) f116 rfl rfl (tyX8_ok 21 (by decide)) rfl rfl (Nat.le_of_ble_eq_true rfl) (wm_p47 bd c Z1 L (nI (σ.length))) dX8_go_14 ?_
          refine j_aload_n C 17 0 dX8_go_17 rfl rfl ?_
          refine j_get C 18 (ci := 8) hL rfl 0 (wm_o0 bd c (upR Z1 47 (fun _ => nI (σ.length))) L) 22 (by decide) f57 rfl (v := .ref (bd 15)) rfl dX8_go_18 ?_
          refine j_aload_n C 21 0 dX8_go_21 rfl rfl ?_
          refine j_get C 22 (ci := 8) hL rfl 0 (wm_o0 bd c (upR Z1 47 (fun _ => nI (σ.length))) L) 21 (by decide) f116 rfl (v := .int (nI (σ.length))) rfl dX8_go_22 ?_
          refine j_iald C 25 15 0 (f := Z1 15) (wm_a15 bd c (upR Z1 47 (fun _ => nI (σ.length))) L) rfl (by omega) (by decide) dX8_go_25 ?_
          refine j_eqi hpop.2 ?_
          refine j_istore_n C 26 (lv' := [(2, .int (nI (t))), (0, .ref (bd 0)), (1, .int (x))]) dX8_go_26 rfl (by rw [hn]; decide) rfl ?_
          refine j_aload_n C 27 1 dX8_go_27 rfl rfl ?_
          refine j_dup C 28 dX8_go_28 rfl ?_
          refine j_get C 29 (ci := 8) hL rfl 0 (wm_o0 bd c (upR Z1 47 (fun _ => nI (σ.length))) L) 20 (by decide) f119 rfl (v := .int (Z1 46 0)) rfl dX8_go_29 ?_
          refine j_eqi h46 ?_
          refine j_iconst C 32 (v := nI 1) dX8_go_32 rfl ?_
          refine j_iadd_e C 33 dX8_go_33 (nI_add _ _) ?_
          refine j_put C 34 (ci := 8) hL tyX8_ok nmX8 rfl 0 (wm_o0 bd c (upR Z1 47 (fun _ => nI (σ.length))) L) 20 (by decide) f119 rfl rfl (tyX8_ok 20 (by decide)) rfl rfl (Nat.le_of_ble_eq_true rfl) (wm_p46 bd c (upR Z1 47 (fun _ => nI (σ.length))) L (nI (v + 1))) dX8_go_34 ?_
          refine j_aload_n C 37 1 dX8_go_37 rfl rfl ?_
          refine j_get C 38 (ci := 8) hL rfl 0 (wm_o0 bd c (upR (upR Z1 47 (fun _ => nI (σ.length))) 46 (fun _ => nI (v + 1))) L) 2 (by decide) f7 rfl (v := .ref (bd 1)) rfl dX8_go_38 ?_
          refine j_iload_n C 41 0 dX8_go_41 rfl rfl ?_
          refine j_iald C 42 1 0 (f := Z1 1) (wm_a1 bd c (upR (upR Z1 47 (fun _ => nI (σ.length))) 46 (fun _ => nI (v + 1))) L) rfl (by omega) (by decide) dX8_go_42 ?_
          refine j_eqi (hE t htn).1 ?_
          refine j_iconst C 43 (v := nI 1) dX8_go_43 rfl ?_
          refine j_icmp_ne_n C 44 49 (by omega) (by omega) dX8_go_44 (by decide) (fun _ => ?_) (fun h => absurd h (by omega))
          refine j_aload_n C 49 1 dX8_go_49 rfl rfl ?_
          refine j_get C 50 (ci := 8) hL rfl 0 (wm_o0 bd c (upR (upR Z1 47 (fun _ => nI (σ.length))) 46 (fun _ => nI (v + 1))) L) 2 (by decide) f7 rfl (v := .ref (bd 1)) rfl dX8_go_50 ?_
          refine j_iload_n C 53 0 dX8_go_53 rfl rfl ?_
          refine j_iald C 54 1 0 (f := Z1 1) (wm_a1 bd c (upR (upR Z1 47 (fun _ => nI (σ.length))) 46 (fun _ => nI (v + 1))) L) rfl (by omega) (by decide) dX8_go_54 ?_
          refine j_eqi (hE t htn).1 ?_
          refine j_iconst C 55 (v := nI 2) dX8_go_55 rfl ?_
          refine j_icmp_ne_n C 56 75 (by omega) (by omega) dX8_go_56 (by decide) (fun _ => ?_) (fun h => absurd h (by omega))
          refine j_aload_n C 75 1 dX8_go_75 rfl rfl ?_
          refine j_get C 76 (ci := 8) hL rfl 0 (wm_o0 bd c (upR (upR Z1 47 (fun _ => nI (σ.length))) 46 (fun _ => nI (v + 1))) L) 2 (by decide) f7 rfl (v := .ref (bd 1)) rfl dX8_go_76 ?_
          refine j_iload_n C 79 0 dX8_go_79 rfl rfl ?_
          refine j_iald C 80 1 0 (f := Z1 1) (wm_a1 bd c (upR (upR Z1 47 (fun _ => nI (σ.length))) 46 (fun _ => nI (v + 1))) L) rfl (by omega) (by decide) dX8_go_80 ?_
          refine j_eqi (hE t htn).1 ?_
          refine j_iconst C 81 (v := nI 3) dX8_go_81 rfl ?_
          refine j_icmp_ne_n C 82 130 (by omega) (by omega) dX8_go_82 (by decide) (fun _ => ?_) (fun h => absurd h (by omega))
          refine j_aload_n C 130 1 dX8_go_130 rfl rfl ?_
          refine j_get C 131 (ci := 8) hL rfl 0 (wm_o0 bd c (upR (upR Z1 47 (fun _ => nI (σ.length))) 46 (fun _ => nI (v + 1))) L) 2 (by decide) f7 rfl (v := .ref (bd 1)) rfl dX8_go_131 ?_
          refine j_iload_n C 134 0 dX8_go_134 rfl rfl ?_
          refine j_iald C 135 1 0 (f := Z1 1) (wm_a1 bd c (upR (upR Z1 47 (fun _ => nI (σ.length))) 46 (fun _ => nI (v + 1))) L) rfl (by omega) (by decide) dX8_go_135 ?_
          refine j_eqi (hE t htn).1 ?_
          refine j_bipush C 136 (v := nI 6) dX8_go_136 rfl ?_
          refine j_icmp_eq_n C 138 151 (by omega) (by omega) dX8_go_138 (by decide) (fun _ => ?_) (fun h => absurd h (by omega))
          refine j_aload_n C 151 1 dX8_go_151 rfl rfl ?_
          refine j_get C 152 (ci := 8) hL rfl 0 (wm_o0 bd c (upR (upR Z1 47 (fun _ => nI (σ.length))) 46 (fun _ => nI (v + 1))) L) 22 (by decide) f57 rfl (v := .ref (bd 15)) rfl dX8_go_152 ?_
          refine j_aload_n C 155 1 dX8_go_155 rfl rfl ?_
          refine j_get C 156 (ci := 8) hL rfl 0 (wm_o0 bd c (upR (upR Z1 47 (fun _ => nI (σ.length))) 46 (fun _ => nI (v + 1))) L) 21 (by decide) f116 rfl (v := .int (nI (σ.length))) rfl dX8_go_156 ?_
          refine j_aload_n C 159 1 dX8_go_159 rfl rfl ?_
          refine j_get C 160 (ci := 8) hL rfl 0 (wm_o0 bd c (upR (upR Z1 47 (fun _ => nI (σ.length))) 46 (fun _ => nI (v + 1))) L) 2 (by decide) f7 rfl (v := .ref (bd 1)) rfl dX8_go_160 ?_
          refine j_iload_n C 163 0 dX8_go_163 rfl rfl ?_
          refine j_iald C 164 1 0 (f := Z1 1) (wm_a1 bd c (upR (upR Z1 47 (fun _ => nI (σ.length))) 46 (fun _ => nI (v + 1))) L) rfl (by omega) (by decide) dX8_go_164 ?_
          refine j_eqi (hE t htn).1 ?_
          refine j_bipush C 165 (v := nI 6) dX8_go_165 rfl ?_
          refine j_icmp_ne_n C 167 179 (by omega) (by omega) dX8_go_167 (by decide) (fun h => absurd h (by omega)) (fun _ => ?_)
          refine j_aload_n C 170 1 dX8_go_170 rfl rfl ?_
          refine j_get C 171 (ci := 8) hL rfl 0 (wm_o0 bd c (upR (upR Z1 47 (fun _ => nI (σ.length))) 46 (fun _ => nI (v + 1))) L) 4 (by decide) f16 rfl (v := .ref (bd 3)) rfl dX8_go_171 ?_
          refine j_iload_n C 174 0 dX8_go_174 rfl rfl ?_
          refine j_iald C 175 3 0 (f := Z1 3) (wm_a3 bd c (upR (upR Z1 47 (fun _ => nI (σ.length))) 46 (fun _ => nI (v + 1))) L) rfl (by omega) (by decide) dX8_go_175 ?_
          refine j_eqi (g_EM_lf hE htn (by omega)) ?_
          refine j_goto C 176 185 dX8_go_176 (by decide) ?_
          refine j_iast C 185 15 0 (f := Z1 15) (wm_a15 bd c (upR (upR Z1 47 (fun _ => nI (σ.length))) 46 (fun _ => nI (v + 1))) L) rfl (by omega) (by decide) (wm_s15 bd c (upR (upR Z1 47 (fun _ => nI (σ.length))) 46 (fun _ => nI (v + 1))) L (upd (Z1 15) (σ.length) (nI (g_lf τ t)))) dX8_go_185 ?_
          refine j_aload_n C 186 1 dX8_go_186 rfl rfl ?_
          refine j_dup C 187 dX8_go_187 rfl ?_
          refine j_get C 188 (ci := 8) hL rfl 0 (wm_o0 bd c (upR (upR (upR Z1 47 (fun _ => nI (σ.length))) 46 (fun _ => nI (v + 1))) 15 (upd (Z1 15) (σ.length) (nI (g_lf τ t)))) L) 21 (by decide) f116 rfl (v := .int (nI (σ.length))) rfl dX8_go_188 ?_
          refine j_iconst C 191 (v := nI 1) dX8_go_191 rfl ?_
          refine j_iadd_e C 192 dX8_go_192 (nI_add _ _) ?_
          refine j_put C 193 (ci := 8) hL tyX8_ok nmX8 rfl 0 (wm_o0 bd c (upR (upR (upR Z1 47 (fun _ => nI (σ.length))) 46 (fun _ => nI (v + 1))) 15 (upd (Z1 15) (σ.length) (nI (g_lf τ t)))) L) 21 (by decide) f116 rfl rfl (tyX8_ok 21 (by decide)) rfl rfl (Nat.le_of_ble_eq_true rfl) (wm_p47 bd c (upR (upR (upR Z1 47 (fun _ => nI (σ.length))) 46 (fun _ => nI (v + 1))) 15 (upd (Z1 15) (σ.length) (nI (g_lf τ t)))) L (nI (σ.length + 1))) dX8_go_193 ?_
          refine j_goto C 196 280 dX8_go_196 (by decide) ?_
          refine j_goto C 280 0 dX8_go_280 (by decide) ?_
          have q := hQ t σ v l hq (by rw [g_st6 hk])
          rw [g_st6 hk] at q
          rw [if_neg (by omega)] at q
          exact j_lv [1, 2] rfl (ih _ (v + 1) _ (upR (upR (upR (upR Z1 47 (fun _ => nI (σ.length))) 46 (fun _ => nI (v + 1))) 15 (upd (Z1 15) (σ.length) (nI (g_lf τ t)))) 47 (fun _ => nI (σ.length + 1))) (by omega) q ⟨rfl, g_ar_p1 hpop.1, rfl, h45, h14⟩ (g_fr_up (g_fr_up (g_fr_up (g_fr_up hfr (by decide) _) (by decide) _) (by decide) _) (by decide) _) _ rfl)
  exact loop (B + 1 - v0) σ0 v0 l0 Z (by have := (hb σ0 v0 l0 hQ0).1; omega) hQ0 hQM g_fr_rfl _ rfl
