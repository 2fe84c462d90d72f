/-! contracts: the reference, types and faults -/
set_option maxHeartbeats 4000000 in
set_option maxRecDepth 100000 in
theorem c_X8_faultAt (ll : Launch) (D : va_G) (bd : Nat → Nat) (c : Nat → ClassId) (Z : ZT) (L : LT) {n : Nat} {τ : Tb} {root : Nat} (S : TS) (t : Nat) (hwf : g_WF n τ) (hr2 : root < n) (hE : g_EM n τ Z) (hB : g_BM τ root Z) (hY : g_YM τ root S Z) (ht : t ∈ g_P τ root) : cI (S := Unit) ll yX8_faultAt vsX8_faultAt ({ frames := 1, cells := 0, slots := 0, locals := 24 } : Room) D (tysG c) [.ref (bd 0), .int (nI (t))] (wm bd c Z L) (fun _ => wm bd c Z L) (fun r _ => r = nI (g_fa τ root S t)) 0 0 := by
  refine cI_start (cc := cX8_faultAt) (maxL := 4) RX8 rfl (by decide +kernel) rfl (Nat.le_of_ble_eq_true rfl) ?_
  intro κ hlκ C hr _ E hR hn
  subst hlκ
  have hL : ∀ w ∈ u_ws RX8 TX8 28, w.before (ja κ) (js κ) = true := fun w h => C.t w (mX8_faultAt_wsX80 w h)
  have f16 : (Cond.fieldLink RX8 16 "GuardedGrammarModel" (TX8 4).2.1 (TX8 4).2.2.1).before (ja κ) (js κ) = true := C.t (.fieldLink RX8 16 "GuardedGrammarModel" "one" "[I") (mX8_faultAt_o _ (by decide +kernel))
  have f19 : (Cond.fieldLink RX8 19 "GuardedGrammarModel" (TX8 5).2.1 (TX8 5).2.2.1).before (ja κ) (js κ) = true := C.t (.fieldLink RX8 19 "GuardedGrammarModel" "two" "[I") (mX8_faultAt_o _ (by decide +kernel))
  have f7 : (Cond.fieldLink RX8 7 "GuardedGrammarModel" (TX8 2).2.1 (TX8 2).2.2.1).before (ja κ) (js κ) = true := C.t (.fieldLink RX8 7 "GuardedGrammarModel" "kind" "[I") (mX8_faultAt_o _ (by decide +kernel))
  have f41 : (Cond.fieldLink RX8 41 "GuardedGrammarModel" (TX8 12).2.1 (TX8 12).2.2.1).before (ja κ) (js κ) = true := C.t (.fieldLink RX8 41 "GuardedGrammarModel" "binder" "[I") (mX8_faultAt_o _ (by decide +kernel))
  have f28 : (Cond.fieldLink RX8 28 "GuardedGrammarModel" (TX8 8).2.1 (TX8 8).2.2.1).before (ja κ) (js κ) = true := C.t (.fieldLink RX8 28 "GuardedGrammarModel" "nullable" "[Z") (mX8_faultAt_o _ (by decide +kernel))
  have f35 : (Cond.fieldLink RX8 35 "GuardedGrammarModel" (TX8 10).2.1 (TX8 10).2.2.1).before (ja κ) (js κ) = true := C.t (.fieldLink RX8 35 "GuardedGrammarModel" "after" "[I") (mX8_faultAt_o _ (by decide +kernel))
  have f32 : (Cond.fieldLink RX8 32 "GuardedGrammarModel" (TX8 9).2.1 (TX8 9).2.2.1).before (ja κ) (js κ) = true := C.t (.fieldLink RX8 32 "GuardedGrammarModel" "first" "[I") (mX8_faultAt_o _ (by decide +kernel))
  show J D κ 0 0 0 [(0, .ref (bd 0)), (1, .int (nI (t)))] [] (wm bd c Z L)
  have ht48 := hwf.1
  have htn := g_P_lt hwf hr2 ht
  have hk6 : g_kd τ t ≤ 6 := (hwf.2 t htn).1
  have hk : g_kd τ t = 0 ∨ g_kd τ t = 1 ∨ g_kd τ t = 2 ∨ g_kd τ t = 3 ∨ g_kd τ t = 4 ∨ g_kd τ t = 5 ∨ g_kd τ t = 6 := by omega
  rcases hk with hk | hk | hk | hk | hk | hk | hk
  · refine j_aload_n C 0 0 dX8_faultAt_0 rfl rfl ?_
    refine j_get C 1 (ci := 8) hL rfl 0 (wm_o0 bd c Z L) 4 (by decide) f16 rfl (v := .ref (bd 3)) rfl dX8_faultAt_1 ?_
    refine j_iload_n C 4 1 dX8_faultAt_4 rfl rfl ?_
    refine j_iald C 5 3 0 (f := Z 3) (wm_a3 bd c Z L) rfl (by first | omega | exact e_lt (by assumption)) (by decide) dX8_faultAt_5 ?_
    refine j_istore_n C 6 (lv' := [(2, .int ((Z 3) (t))), (0, .ref (bd 0)), (1, .int (nI (t)))]) dX8_faultAt_6 rfl (by rw [hn]; decide) rfl ?_
    refine j_aload_n C 7 1 dX8_faultAt_7 rfl rfl ?_
    refine j_get C 8 (ci := 8) hL rfl 0 (wm_o0 bd c Z L) 5 (by decide) f19 rfl (v := .ref (bd 4)) rfl dX8_faultAt_8 ?_
    refine j_iload_n C 11 2 dX8_faultAt_11 rfl rfl ?_
    refine j_iald C 12 4 0 (f := Z 4) (wm_a4 bd c Z L) rfl (by first | omega | exact e_lt (by assumption)) (by decide) dX8_faultAt_12 ?_
    refine j_istore_n C 13 (lv' := [(3, .int ((Z 4) (t))), (2, .int ((Z 3) (t))), (0, .ref (bd 0)), (1, .int (nI (t)))]) dX8_faultAt_13 rfl (by rw [hn]; decide) rfl ?_
    refine j_aload_n C 14 2 dX8_faultAt_14 rfl rfl ?_
    refine j_get C 15 (ci := 8) hL rfl 0 (wm_o0 bd c Z L) 2 (by decide) f7 rfl (v := .ref (bd 1)) rfl dX8_faultAt_15 ?_
    refine j_iload_n C 18 3 dX8_faultAt_18 rfl rfl ?_
    refine j_iald C 19 1 0 (f := Z 1) (wm_a1 bd c Z L) rfl (by first | omega | exact e_lt (by assumption)) (by decide) dX8_faultAt_19 ?_
    refine j_eqi (hE t htn).1 ?_
    refine j_eqi (show nI (g_kd τ t) = nI 0 by rw [hk]) ?_
    refine j_tout_n C 20 (a := 0) 146 (by decide) dX8_faultAt_20 (by decide) (by decide) ?_
    refine j_iconst C 146 (v := nI 0) dX8_faultAt_146 rfl ?_
    exact j_ireti C hr E (Nat.le_refl _) (Nat.le_refl _) rfl () (by unfold g_fa; rw [if_neg (by omega), if_neg (by omega), if_neg (by omega)]) rfl dX8_faultAt_147
  · refine j_aload_n C 0 0 dX8_faultAt_0 rfl rfl ?_
    refine j_get C 1 (ci := 8) hL rfl 0 (wm_o0 bd c Z L) 4 (by decide) f16 rfl (v := .ref (bd 3)) rfl dX8_faultAt_1 ?_
    refine j_iload_n C 4 1 dX8_faultAt_4 rfl rfl ?_
    refine j_iald C 5 3 0 (f := Z 3) (wm_a3 bd c Z L) rfl (by first | omega | exact e_lt (by assumption)) (by decide) dX8_faultAt_5 ?_
    refine j_istore_n C 6 (lv' := [(2, .int ((Z 3) (t))), (0, .ref (bd 0)), (1, .int (nI (t)))]) dX8_faultAt_6 rfl (by rw [hn]; decide) rfl ?_
    refine j_aload_n C 7 1 dX8_faultAt_7 rfl rfl ?_
    refine j_get C 8 (ci := 8) hL rfl 0 (wm_o0 bd c Z L) 5 (by decide) f19 rfl (v := .ref (bd 4)) rfl dX8_faultAt_8 ?_
    refine j_iload_n C 11 2 dX8_faultAt_11 rfl rfl ?_
    refine j_iald C 12 4 0 (f := Z 4) (wm_a4 bd c Z L) rfl (by first | omega | exact e_lt (by assumption)) (by decide) dX8_faultAt_12 ?_
    refine j_istore_n C 13 (lv' := [(3, .int ((Z 4) (t))), (2, .int ((Z 3) (t))), (0, .ref (bd 0)), (1, .int (nI (t)))]) dX8_faultAt_13 rfl (by rw [hn]; decide) rfl ?_
    refine j_aload_n C 14 2 dX8_faultAt_14 rfl rfl ?_
    refine j_get C 15 (ci := 8) hL rfl 0 (wm_o0 bd c Z L) 2 (by decide) f7 rfl (v := .ref (bd 1)) rfl dX8_faultAt_15 ?_
    refine j_iload_n C 18 3 dX8_faultAt_18 rfl rfl ?_
    refine j_iald C 19 1 0 (f := Z 1) (wm_a1 bd c Z L) rfl (by first | omega | exact e_lt (by assumption)) (by decide) dX8_faultAt_19 ?_
    refine j_eqi (hE t htn).1 ?_
    refine j_eqi (show nI (g_kd τ t) = nI 1 by rw [hk]) ?_
    refine j_tout_n C 20 (a := 1) 146 (by decide) dX8_faultAt_20 (by decide) (by decide) ?_
    refine j_iconst C 146 (v := nI 0) dX8_faultAt_146 rfl ?_
    exact j_ireti C hr E (Nat.le_refl _) (Nat.le_refl _) rfl () (by unfold g_fa; rw [if_neg (by omega), if_neg (by omega), if_neg (by omega)]) rfl dX8_faultAt_147
  · refine j_aload_n C 0 0 dX8_faultAt_0 rfl rfl ?_
    refine j_get C 1 (ci := 8) hL rfl 0 (wm_o0 bd c Z L) 4 (by decide) f16 rfl (v := .ref (bd 3)) rfl dX8_faultAt_1 ?_
    refine j_iload_n C 4 1 dX8_faultAt_4 rfl rfl ?_
    refine j_iald C 5 3 0 (f := Z 3) (wm_a3 bd c Z L) rfl (by first | omega | exact e_lt (by assumption)) (by decide) dX8_faultAt_5 ?_
    refine j_istore_n C 6 (lv' := [(2, .int ((Z 3) (t))), (0, .ref (bd 0)), (1, .int (nI (t)))]) dX8_faultAt_6 rfl (by rw [hn]; decide) rfl ?_
    refine j_aload_n C 7 1 dX8_faultAt_7 rfl rfl ?_
    refine j_get C 8 (ci := 8) hL rfl 0 (wm_o0 bd c Z L) 5 (by decide) f19 rfl (v := .ref (bd 4)) rfl dX8_faultAt_8 ?_
    refine j_iload_n C 11 2 dX8_faultAt_11 rfl rfl ?_
    refine j_iald C 12 4 0 (f := Z 4) (wm_a4 bd c Z L) rfl (by first | omega | exact e_lt (by assumption)) (by decide) dX8_faultAt_12 ?_
    refine j_istore_n C 13 (lv' := [(3, .int ((Z 4) (t))), (2, .int ((Z 3) (t))), (0, .ref (bd 0)), (1, .int (nI (t)))]) dX8_faultAt_13 rfl (by rw [hn]; decide) rfl ?_
    refine j_aload_n C 14 2 dX8_faultAt_14 rfl rfl ?_
    refine j_get C 15 (ci := 8) hL rfl 0 (wm_o0 bd c Z L) 2 (by decide) f7 rfl (v := .ref (bd 1)) rfl dX8_faultAt_15 ?_
    refine j_iload_n C 18 3 dX8_faultAt_18 rfl rfl ?_
    refine j_iald C 19 1 0 (f := Z 1) (wm_a1 bd c Z L) rfl (by first | omega | exact e_lt (by assumption)) (by decide) dX8_faultAt_19 ?_
    refine j_eqi (hE t htn).1 ?_
    refine j_eqi (show nI (g_kd τ t) = nI 2 by rw [hk]) ?_
    refine j_tout_n C 20 (a := 2) 146 (by decide) dX8_faultAt_20 (by decide) (by decide) ?_
    refine j_iconst C 146 (v := nI 0) dX8_faultAt_146 rfl ?_
    exact j_ireti C hr E (Nat.le_refl _) (Nat.le_refl _) rfl () (by unfold g_fa; rw [if_neg (by omega), if_neg (by omega), if_neg (by omega)]) rfl dX8_faultAt_147
  · have hlP := g_lfP hwf hr2 ht (by omega)
    have hrP := g_rtP hwf hr2 ht (by omega)
    have hlb := (hY _ hlP.1).2.2.2
    have hrb := (hY _ hrP.1).2.2.2
    have hb1 := hlb.1
    have hb2 := hlb.2
    cases hnl : g_nu S (g_lf τ t) with
    | false =>
      cases hnr : g_nu S (g_rt τ t) with
      | false =>
        refine j_aload_n C 0 0 dX8_faultAt_0 rfl rfl ?_
        refine j_get C 1 (ci := 8) hL rfl 0 (wm_o0 bd c Z L) 4 (by decide) f16 rfl (v := .ref (bd 3)) rfl dX8_faultAt_1 ?_
        refine j_iload_n C 4 1 dX8_faultAt_4 rfl rfl ?_
        refine j_iald C 5 3 0 (f := Z 3) (wm_a3 bd c Z L) rfl (by first | omega | exact e_lt (by assumption)) (by decide) dX8_faultAt_5 ?_
        refine j_eqi (g_EM_lf hE htn (by omega)) ?_
        refine j_istore_n C 6 (lv' := [(2, .int (nI (g_lf τ t))), (0, .ref (bd 0)), (1, .int (nI (t)))]) dX8_faultAt_6 rfl (by rw [hn]; decide) rfl ?_
        refine j_aload_n C 7 1 dX8_faultAt_7 rfl rfl ?_
        refine j_get C 8 (ci := 8) hL rfl 0 (wm_o0 bd c Z L) 5 (by decide) f19 rfl (v := .ref (bd 4)) rfl dX8_faultAt_8 ?_
        refine j_iload_n C 11 2 dX8_faultAt_11 rfl rfl ?_
        refine j_iald C 12 4 0 (f := Z 4) (wm_a4 bd c Z L) rfl (by first | omega | exact e_lt (by assumption)) (by decide) dX8_faultAt_12 ?_
        refine j_eqi (g_EM_rt hE htn (by omega)) ?_
        refine j_istore_n C 13 (lv' := [(3, .int (nI (g_rt τ t))), (2, .int (nI (g_lf τ t))), (0, .ref (bd 0)), (1, .int (nI (t)))]) dX8_faultAt_13 rfl (by rw [hn]; decide) rfl ?_
        refine j_aload_n C 14 2 dX8_faultAt_14 rfl rfl ?_
        refine j_get C 15 (ci := 8) hL rfl 0 (wm_o0 bd c Z L) 2 (by decide) f7 rfl (v := .ref (bd 1)) rfl dX8_faultAt_15 ?_
        refine j_iload_n C 18 3 dX8_faultAt_18 rfl rfl ?_
        refine j_iald C 19 1 0 (f := Z 1) (wm_a1 bd c Z L) rfl (by first | omega | exact e_lt (by assumption)) (by decide) dX8_faultAt_19 ?_
        refine j_eqi (hE t htn).1 ?_
        refine j_eqi (show nI (g_kd τ t) = nI 3 by rw [hk]) ?_
        refine j_tin_n C 20 (a := 3) (off := 55) 75 (by decide) dX8_faultAt_20 (by decide) (by decide) (by decide) (by decide) ?_
        refine j_aload_n C 75 2 dX8_faultAt_75 rfl rfl ?_
        refine j_get C 76 (ci := 8) hL rfl 0 (wm_o0 bd c Z L) 8 (by decide) f28 rfl (v := .ref (bd 7)) rfl dX8_faultAt_76 ?_
        refine j_iload_n C 79 1 dX8_faultAt_79 rfl rfl ?_
        refine j_zald C 80 7 1 (f := Z 7) (wm_a7 bd c Z L) rfl (by first | omega | exact e_lt (by assumption)) (by decide) dX8_faultAt_80 ?_
        refine j_eqi ((hY _ hlP.1).1.trans (by rw [hnl])) ?_
        refine j_if_ne_b C 81 (b := false) 100 dX8_faultAt_81 (by decide) (fun h => by cases h) (fun _ => ?_)
        refine j_aload_n C 84 2 dX8_faultAt_84 rfl rfl ?_
        refine j_get C 85 (ci := 8) hL rfl 0 (wm_o0 bd c Z L) 10 (by decide) f35 rfl (v := .ref (bd 9)) rfl dX8_faultAt_85 ?_
        refine j_iload_n C 88 1 dX8_faultAt_88 rfl rfl ?_
        refine j_iald C 89 9 0 (f := Z 9) (wm_a9 bd c Z L) rfl (by first | omega | exact e_lt (by assumption)) (by decide) dX8_faultAt_89 ?_
        refine j_eqi (hY _ hlP.1).2.2.1 ?_
        refine j_aload_n C 90 2 dX8_faultAt_90 rfl rfl ?_
        refine j_get C 91 (ci := 8) hL rfl 0 (wm_o0 bd c Z L) 9 (by decide) f32 rfl (v := .ref (bd 8)) rfl dX8_faultAt_91 ?_
        refine j_iload_n C 94 0 dX8_faultAt_94 rfl rfl ?_
        refine j_iald C 95 8 0 (f := Z 8) (wm_a8 bd c Z L) rfl (by first | omega | exact e_lt (by assumption)) (by decide) dX8_faultAt_95 ?_
        refine j_eqi (hY _ hrP.1).2.1 ?_
        refine j_iand_e C 96 (z := nI ((g_af S (g_lf τ t)) &&& (g_fi S (g_rt τ t)))) dX8_faultAt_96 (e_and _ _) ?_
        refine j_if_eq_n C 97 104 (by first | omega | exact e_lt (by assumption)) dX8_faultAt_97 (by decide) (fun h97 => ?_) (fun h97 => ?_)
        · refine j_iconst C 104 (v := nI 0) dX8_faultAt_104 rfl ?_
          exact j_ireti C hr E (Nat.le_refl _) (Nat.le_refl _) rfl () (by unfold g_fa; rw [if_neg (by omega), if_pos hk, if_neg (fun z => z.elim (fun z => by rw [hnl] at z; cases z) (fun z => z h97))]) rfl dX8_faultAt_105
        · refine j_iconst C 100 (v := nI 3) dX8_faultAt_100 rfl ?_
          refine j_goto C 101 105 dX8_faultAt_101 (by decide) ?_
          exact j_ireti C hr E (Nat.le_refl _) (Nat.le_refl _) rfl () (by unfold g_fa; rw [if_neg (by omega), if_pos hk, if_pos (Or.inr h97)]) rfl dX8_faultAt_105
      | true =>
        refine j_aload_n C 0 0 dX8_faultAt_0 rfl rfl ?_
        refine j_get C 1 (ci := 8) hL rfl 0 (wm_o0 bd c Z L) 4 (by decide) f16 rfl (v := .ref (bd 3)) rfl dX8_faultAt_1 ?_
        refine j_iload_n C 4 1 dX8_faultAt_4 rfl rfl ?_
        refine j_iald C 5 3 0 (f := Z 3) (wm_a3 bd c Z L) rfl (by first | omega | exact e_lt (by assumption)) (by decide) dX8_faultAt_5 ?_
        refine j_eqi (g_EM_lf hE htn (by omega)) ?_
        refine j_istore_n C 6 (lv' := [(2, .int (nI (g_lf τ t))), (0, .ref (bd 0)), (1, .int (nI (t)))]) dX8_faultAt_6 rfl (by rw [hn]; decide) rfl ?_
        refine j_aload_n C 7 1 dX8_faultAt_7 rfl rfl ?_
        refine j_get C 8 (ci := 8) hL rfl 0 (wm_o0 bd c Z L) 5 (by decide) f19 rfl (v := .ref (bd 4)) rfl dX8_faultAt_8 ?_
        refine j_iload_n C 11 2 dX8_faultAt_11 rfl rfl ?_
        refine j_iald C 12 4 0 (f := Z 4) (wm_a4 bd c Z L) rfl (by first | omega | exact e_lt (by assumption)) (by decide) dX8_faultAt_12 ?_
        refine j_eqi (g_EM_rt hE htn (by omega)) ?_
        refine j_istore_n C 13 (lv' := [(3, .int (nI (g_rt τ t))), (2, .int (nI (g_lf τ t))), (0, .ref (bd 0)), (1, .int (nI (t)))]) dX8_faultAt_13 rfl (by rw [hn]; decide) rfl ?_
        refine j_aload_n C 14 2 dX8_faultAt_14 rfl rfl ?_
        refine j_get C 15 (ci := 8) hL rfl 0 (wm_o0 bd c Z L) 2 (by decide) f7 rfl (v := .ref (bd 1)) rfl dX8_faultAt_15 ?_
        refine j_iload_n C 18 3 dX8_faultAt_18 rfl rfl ?_
        refine j_iald C 19 1 0 (f := Z 1) (wm_a1 bd c Z L) rfl (by first | omega | exact e_lt (by assumption)) (by decide) dX8_faultAt_19 ?_
        refine j_eqi (hE t htn).1 ?_
        refine j_eqi (show nI (g_kd τ t) = nI 3 by rw [hk]) ?_
        refine j_tin_n C 20 (a := 3) (off := 55) 75 (by decide) dX8_faultAt_20 (by decide) (by decide) (by decide) (by decide) ?_
        refine j_aload_n C 75 2 dX8_faultAt_75 rfl rfl ?_
        refine j_get C 76 (ci := 8) hL rfl 0 (wm_o0 bd c Z L) 8 (by decide) f28 rfl (v := .ref (bd 7)) rfl dX8_faultAt_76 ?_
        refine j_iload_n C 79 1 dX8_faultAt_79 rfl rfl ?_
        refine j_zald C 80 7 1 (f := Z 7) (wm_a7 bd c Z L) rfl (by first | omega | exact e_lt (by assumption)) (by decide) dX8_faultAt_80 ?_
        refine j_eqi ((hY _ hlP.1).1.trans (by rw [hnl])) ?_
        refine j_if_ne_b C 81 (b := false) 100 dX8_faultAt_81 (by decide) (fun h => by cases h) (fun _ => ?_)
        refine j_aload_n C 84 2 dX8_faultAt_84 rfl rfl ?_
        refine j_get C 85 (ci := 8) hL rfl 0 (wm_o0 bd c Z L) 10 (by decide) f35 rfl (v := .ref (bd 9)) rfl dX8_faultAt_85 ?_
        refine j_iload_n C 88 1 dX8_faultAt_88 rfl rfl ?_
        refine j_iald C 89 9 0 (f := Z 9) (wm_a9 bd c Z L) rfl (by first | omega | exact e_lt (by assumption)) (by decide) dX8_faultAt_89 ?_
        refine j_eqi (hY _ hlP.1).2.2.1 ?_
        refine j_aload_n C 90 2 dX8_faultAt_90 rfl rfl ?_
        refine j_get C 91 (ci := 8) hL rfl 0 (wm_o0 bd c Z L) 9 (by decide) f32 rfl (v := .ref (bd 8)) rfl dX8_faultAt_91 ?_
        refine j_iload_n C 94 0 dX8_faultAt_94 rfl rfl ?_
        refine j_iald C 95 8 0 (f := Z 8) (wm_a8 bd c Z L) rfl (by first | omega | exact e_lt (by assumption)) (by decide) dX8_faultAt_95 ?_
        refine j_eqi (hY _ hrP.1).2.1 ?_
        refine j_iand_e C 96 (z := nI ((g_af S (g_lf τ t)) &&& (g_fi S (g_rt τ t)))) dX8_faultAt_96 (e_and _ _) ?_
        refine j_if_eq_n C 97 104 (by first | omega | exact e_lt (by assumption)) dX8_faultAt_97 (by decide) (fun h97 => ?_) (fun h97 => ?_)
        · refine j_iconst C 104 (v := nI 0) dX8_faultAt_104 rfl ?_
          exact j_ireti C hr E (Nat.le_refl _) (Nat.le_refl _) rfl () (by unfold g_fa; rw [if_neg (by omega), if_pos hk, if_neg (fun z => z.elim (fun z => by rw [hnl] at z; cases z) (fun z => z h97))]) rfl dX8_faultAt_105
        · refine j_iconst C 100 (v := nI 3) dX8_faultAt_100 rfl ?_
          refine j_goto C 101 105 dX8_faultAt_101 (by decide) ?_
          exact j_ireti C hr E (Nat.le_refl _) (Nat.le_refl _) rfl () (by unfold g_fa; rw [if_neg (by omega), if_pos hk, if_pos (Or.inr h97)]) rfl dX8_faultAt_105
    | true =>
      cases hnr : g_nu S (g_rt τ t) with
      | false =>
        refine j_aload_n C 0 0 dX8_faultAt_0 rfl rfl ?_
        refine j_get C 1 (ci := 8) hL rfl 0 (wm_o0 bd c Z L) 4 (by decide) f16 rfl (v := .ref (bd 3)) rfl dX8_faultAt_1 ?_
        refine j_iload_n C 4 1 dX8_faultAt_4 rfl rfl ?_
        refine j_iald C 5 3 0 (f := Z 3) (wm_a3 bd c Z L) rfl (by first | omega | exact e_lt (by assumption)) (by decide) dX8_faultAt_5 ?_
        refine j_eqi (g_EM_lf hE htn (by omega)) ?_
        refine j_istore_n C 6 (lv' := [(2, .int (nI (g_lf τ t))), (0, .ref (bd 0)), (1, .int (nI (t)))]) dX8_faultAt_6 rfl (by rw [hn]; decide) rfl ?_
        refine j_aload_n C 7 1 dX8_faultAt_7 rfl rfl ?_
        refine j_get C 8 (ci := 8) hL rfl 0 (wm_o0 bd c Z L) 5 (by decide) f19 rfl (v := .ref (bd 4)) rfl dX8_faultAt_8 ?_
        refine j_iload_n C 11 2 dX8_faultAt_11 rfl rfl ?_
        refine j_iald C 12 4 0 (f := Z 4) (wm_a4 bd c Z L) rfl (by first | omega | exact e_lt (by assumption)) (by decide) dX8_faultAt_12 ?_
        refine j_eqi (g_EM_rt hE htn (by omega)) ?_
        refine j_istore_n C 13 (lv' := [(3, .int (nI (g_rt τ t))), (2, .int (nI (g_lf τ t))), (0, .ref (bd 0)), (1, .int (nI (t)))]) dX8_faultAt_13 rfl (by rw [hn]; decide) rfl ?_
        refine j_aload_n C 14 2 dX8_faultAt_14 rfl rfl ?_
        refine j_get C 15 (ci := 8) hL rfl 0 (wm_o0 bd c Z L) 2 (by decide) f7 rfl (v := .ref (bd 1)) rfl dX8_faultAt_15 ?_
        refine j_iload_n C 18 3 dX8_faultAt_18 rfl rfl ?_
        refine j_iald C 19 1 0 (f := Z 1) (wm_a1 bd c Z L) rfl (by first | omega | exact e_lt (by assumption)) (by decide) dX8_faultAt_19 ?_
        refine j_eqi (hE t htn).1 ?_
        refine j_eqi (show nI (g_kd τ t) = nI 3 by rw [hk]) ?_
        refine j_tin_n C 20 (a := 3) (off := 55) 75 (by decide) dX8_faultAt_20 (by decide) (by decide) (by decide) (by decide) ?_
        refine j_aload_n C 75 2 dX8_faultAt_75 rfl rfl ?_
        refine j_get C 76 (ci := 8) hL rfl 0 (wm_o0 bd c Z L) 8 (by decide) f28 rfl (v := .ref (bd 7)) rfl dX8_faultAt_76 ?_
        refine j_iload_n C 79 1 dX8_faultAt_79 rfl rfl ?_
        refine j_zald C 80 7 1 (f := Z 7) (wm_a7 bd c Z L) rfl (by first | omega | exact e_lt (by assumption)) (by decide) dX8_faultAt_80 ?_
        refine j_eqi ((hY _ hlP.1).1.trans (by rw [hnl])) ?_
        refine j_if_ne_b C 81 (b := true) 100 dX8_faultAt_81 (by decide) (fun _ => ?_) (fun h => by cases h)
        refine j_iconst C 100 (v := nI 3) dX8_faultAt_100 rfl ?_
        refine j_goto C 101 105 dX8_faultAt_101 (by decide) ?_
        exact j_ireti C hr E (Nat.le_refl _) (Nat.le_refl _) rfl () (by unfold g_fa; rw [if_neg (by omega), if_pos hk, if_pos (Or.inl hnl)]) rfl dX8_faultAt_105
      | true =>
        refine j_aload_n C 0 0 dX8_faultAt_0 rfl rfl ?_
        refine j_get C 1 (ci := 8) hL rfl 0 (wm_o0 bd c Z L) 4 (by decide) f16 rfl (v := .ref (bd 3)) rfl dX8_faultAt_1 ?_
        refine j_iload_n C 4 1 dX8_faultAt_4 rfl rfl ?_
        refine j_iald C 5 3 0 (f := Z 3) (wm_a3 bd c Z L) rfl (by first | omega | exact e_lt (by assumption)) (by decide) dX8_faultAt_5 ?_
        refine j_eqi (g_EM_lf hE htn (by omega)) ?_
        refine j_istore_n C 6 (lv' := [(2, .int (nI (g_lf τ t))), (0, .ref (bd 0)), (1, .int (nI (t)))]) dX8_faultAt_6 rfl (by rw [hn]; decide) rfl ?_
        refine j_aload_n C 7 1 dX8_faultAt_7 rfl rfl ?_
        refine j_get C 8 (ci := 8) hL rfl 0 (wm_o0 bd c Z L) 5 (by decide) f19 rfl (v := .ref (bd 4)) rfl dX8_faultAt_8 ?_
        refine j_iload_n C 11 2 dX8_faultAt_11 rfl rfl ?_
        refine j_iald C 12 4 0 (f := Z 4) (wm_a4 bd c Z L) rfl (by first | omega | exact e_lt (by assumption)) (by decide) dX8_faultAt_12 ?_
        refine j_eqi (g_EM_rt hE htn (by omega)) ?_
        refine j_istore_n C 13 (lv' := [(3, .int (nI (g_rt τ t))), (2, .int (nI (g_lf τ t))), (0, .ref (bd 0)), (1, .int (nI (t)))]) dX8_faultAt_13 rfl (by rw [hn]; decide) rfl ?_
        refine j_aload_n C 14 2 dX8_faultAt_14 rfl rfl ?_
        refine j_get C 15 (ci := 8) hL rfl 0 (wm_o0 bd c Z L) 2 (by decide) f7 rfl (v := .ref (bd 1)) rfl dX8_faultAt_15 ?_
        refine j_iload_n C 18 3 dX8_faultAt_18 rfl rfl ?_
        refine j_iald C 19 1 0 (f := Z 1) (wm_a1 bd c Z L) rfl (by first | omega | exact e_lt (by assumption)) (by decide) dX8_faultAt_19 ?_
        refine j_eqi (hE t htn).1 ?_
        refine j_eqi (show nI (g_kd τ t) = nI 3 by rw [hk]) ?_
        refine j_tin_n C 20 (a := 3) (off := 55) 75 (by decide) dX8_faultAt_20 (by decide) (by decide) (by decide) (by decide) ?_
        refine j_aload_n C 75 2 dX8_faultAt_75 rfl rfl ?_
        refine j_get C 76 (ci := 8) hL rfl 0 (wm_o0 bd c Z L) 8 (by decide) f28 rfl (v := .ref (bd 7)) rfl dX8_faultAt_76 ?_
        refine j_iload_n C 79 1 dX8_faultAt_79 rfl rfl ?_
        refine j_zald C 80 7 1 (f := Z 7) (wm_a7 bd c Z L) rfl (by first | omega | exact e_lt (by assumption)) (by decide) dX8_faultAt_80 ?_
        refine j_eqi ((hY _ hlP.1).1.trans (by rw [hnl])) ?_
        refine j_if_ne_b C 81 (b := true) 100 dX8_faultAt_81 (by decide) (fun _ => ?_) (fun h => by cases h)
        refine j_iconst C 100 (v := nI 3) dX8_faultAt_100 rfl ?_
        refine j_goto C 101 105 dX8_faultAt_101 (by decide) ?_
        exact j_ireti C hr E (Nat.le_refl _) (Nat.le_refl _) rfl () (by unfold g_fa; rw [if_neg (by omega), if_pos hk, if_pos (Or.inl hnl)]) rfl dX8_faultAt_105
  · have hlP := g_lfP hwf hr2 ht (by omega)
    have hrP := g_rtP hwf hr2 ht (by omega)
    have hlb := (hY _ hlP.1).2.2.2
    have hrb := (hY _ hrP.1).2.2.2
    have hb1 := hlb.1
    have hb2 := hlb.2
    cases hnl : g_nu S (g_lf τ t) with
    | false =>
      cases hnr : g_nu S (g_rt τ t) with
      | false =>
        refine j_aload_n C 0 0 dX8_faultAt_0 rfl rfl ?_
        refine j_get C 1 (ci := 8) hL rfl 0 (wm_o0 bd c Z L) 4 (by decide) f16 rfl (v := .ref (bd 3)) rfl dX8_faultAt_1 ?_
        refine j_iload_n C 4 1 dX8_faultAt_4 rfl rfl ?_
        refine j_iald C 5 3 0 (f := Z 3) (wm_a3 bd c Z L) rfl (by first | omega | exact e_lt (by assumption)) (by decide) dX8_faultAt_5 ?_
        refine j_eqi (g_EM_lf hE htn (by omega)) ?_
        refine j_istore_n C 6 (lv' := [(2, .int (nI (g_lf τ t))), (0, .ref (bd 0)), (1, .int (nI (t)))]) dX8_faultAt_6 rfl (by rw [hn]; decide) rfl ?_
        refine j_aload_n C 7 1 dX8_faultAt_7 rfl rfl ?_
        refine j_get C 8 (ci := 8) hL rfl 0 (wm_o0 bd c Z L) 5 (by decide) f19 rfl (v := .ref (bd 4)) rfl dX8_faultAt_8 ?_
        refine j_iload_n C 11 2 dX8_faultAt_11 rfl rfl ?_
        refine j_iald C 12 4 0 (f := Z 4) (wm_a4 bd c Z L) rfl (by first | omega | exact e_lt (by assumption)) (by decide) dX8_faultAt_12 ?_
        refine j_eqi (g_EM_rt hE htn (by omega)) ?_
        refine j_istore_n C 13 (lv' := [(3, .int (nI (g_rt τ t))), (2, .int (nI (g_lf τ t))), (0, .ref (bd 0)), (1, .int (nI (t)))]) dX8_faultAt_13 rfl (by rw [hn]; decide) rfl ?_
        refine j_aload_n C 14 2 dX8_faultAt_14 rfl rfl ?_
        refine j_get C 15 (ci := 8) hL rfl 0 (wm_o0 bd c Z L) 2 (by decide) f7 rfl (v := .ref (bd 1)) rfl dX8_faultAt_15 ?_
        refine j_iload_n C 18 3 dX8_faultAt_18 rfl rfl ?_
        refine j_iald C 19 1 0 (f := Z 1) (wm_a1 bd c Z L) rfl (by first | omega | exact e_lt (by assumption)) (by decide) dX8_faultAt_19 ?_
        refine j_eqi (hE t htn).1 ?_
        refine j_eqi (show nI (g_kd τ t) = nI 4 by rw [hk]) ?_
        refine j_tin_n C 20 (a := 4) (off := 86) 106 (by decide) dX8_faultAt_20 (by decide) (by decide) (by decide) (by decide) ?_
        refine j_aload_n C 106 2 dX8_faultAt_106 rfl rfl ?_
        refine j_get C 107 (ci := 8) hL rfl 0 (wm_o0 bd c Z L) 8 (by decide) f28 rfl (v := .ref (bd 7)) rfl dX8_faultAt_107 ?_
        refine j_iload_n C 110 1 dX8_faultAt_110 rfl rfl ?_
        refine j_zald C 111 7 1 (f := Z 7) (wm_a7 bd c Z L) rfl (by first | omega | exact e_lt (by assumption)) (by decide) dX8_faultAt_111 ?_
        refine j_eqi ((hY _ hlP.1).1.trans (by rw [hnl])) ?_
        refine j_if_eq_b C 112 (b := false) 124 dX8_faultAt_112 (by decide) (fun _ => ?_) (fun h => by cases h)
        refine j_aload_n C 124 2 dX8_faultAt_124 rfl rfl ?_
        refine j_get C 125 (ci := 8) hL rfl 0 (wm_o0 bd c Z L) 9 (by decide) f32 rfl (v := .ref (bd 8)) rfl dX8_faultAt_125 ?_
        refine j_iload_n C 128 1 dX8_faultAt_128 rfl rfl ?_
        refine j_iald C 129 8 0 (f := Z 8) (wm_a8 bd c Z L) rfl (by first | omega | exact e_lt (by assumption)) (by decide) dX8_faultAt_129 ?_
        refine j_eqi (hY _ hlP.1).2.1 ?_
        refine j_aload_n C 130 2 dX8_faultAt_130 rfl rfl ?_
        refine j_get C 131 (ci := 8) hL rfl 0 (wm_o0 bd c Z L) 9 (by decide) f32 rfl (v := .ref (bd 8)) rfl dX8_faultAt_131 ?_
        refine j_iload_n C 134 0 dX8_faultAt_134 rfl rfl ?_
        refine j_iald C 135 8 0 (f := Z 8) (wm_a8 bd c Z L) rfl (by first | omega | exact e_lt (by assumption)) (by decide) dX8_faultAt_135 ?_
        refine j_eqi (hY _ hrP.1).2.1 ?_
        refine j_iand_e C 136 (z := nI ((g_fi S (g_lf τ t)) &&& (g_fi S (g_rt τ t)))) dX8_faultAt_136 (e_and _ _) ?_
        refine j_if_eq_n C 137 144 (by first | omega | exact e_lt (by assumption)) dX8_faultAt_137 (by decide) (fun h137 => ?_) (fun h137 => ?_)
        · refine j_iconst C 144 (v := nI 0) dX8_faultAt_144 rfl ?_
          exact j_ireti C hr E (Nat.le_refl _) (Nat.le_refl _) rfl () (by unfold g_fa; rw [if_neg (by omega), if_neg (by omega), if_pos hk, if_neg (fun z => z.elim (fun z => by rw [hnl, hnr] at z; cases z) (fun z => z h137))]) rfl dX8_faultAt_145
        · refine j_iconst C 140 (v := nI 4) dX8_faultAt_140 rfl ?_
          refine j_goto C 141 145 dX8_faultAt_141 (by decide) ?_
          exact j_ireti C hr E (Nat.le_refl _) (Nat.le_refl _) rfl () (by unfold g_fa; rw [if_neg (by omega), if_neg (by omega), if_pos hk, if_pos (Or.inr h137)]) rfl dX8_faultAt_145
      | true =>
        refine j_aload_n C 0 0 dX8_faultAt_0 rfl rfl ?_
        refine j_get C 1 (ci := 8) hL rfl 0 (wm_o0 bd c Z L) 4 (by decide) f16 rfl (v := .ref (bd 3)) rfl dX8_faultAt_1 ?_
        refine j_iload_n C 4 1 dX8_faultAt_4 rfl rfl ?_
        refine j_iald C 5 3 0 (f := Z 3) (wm_a3 bd c Z L) rfl (by first | omega | exact e_lt (by assumption)) (by decide) dX8_faultAt_5 ?_
        refine j_eqi (g_EM_lf hE htn (by omega)) ?_
        refine j_istore_n C 6 (lv' := [(2, .int (nI (g_lf τ t))), (0, .ref (bd 0)), (1, .int (nI (t)))]) dX8_faultAt_6 rfl (by rw [hn]; decide) rfl ?_
        refine j_aload_n C 7 1 dX8_faultAt_7 rfl rfl ?_
        refine j_get C 8 (ci := 8) hL rfl 0 (wm_o0 bd c Z L) 5 (by decide) f19 rfl (v := .ref (bd 4)) rfl dX8_faultAt_8 ?_
        refine j_iload_n C 11 2 dX8_faultAt_11 rfl rfl ?_
        refine j_iald C 12 4 0 (f := Z 4) (wm_a4 bd c Z L) rfl (by first | omega | exact e_lt (by assumption)) (by decide) dX8_faultAt_12 ?_
        refine j_eqi (g_EM_rt hE htn (by omega)) ?_
        refine j_istore_n C 13 (lv' := [(3, .int (nI (g_rt τ t))), (2, .int (nI (g_lf τ t))), (0, .ref (bd 0)), (1, .int (nI (t)))]) dX8_faultAt_13 rfl (by rw [hn]; decide) rfl ?_
        refine j_aload_n C 14 2 dX8_faultAt_14 rfl rfl ?_
        refine j_get C 15 (ci := 8) hL rfl 0 (wm_o0 bd c Z L) 2 (by decide) f7 rfl (v := .ref (bd 1)) rfl dX8_faultAt_15 ?_
        refine j_iload_n C 18 3 dX8_faultAt_18 rfl rfl ?_
        refine j_iald C 19 1 0 (f := Z 1) (wm_a1 bd c Z L) rfl (by first | omega | exact e_lt (by assumption)) (by decide) dX8_faultAt_19 ?_
        refine j_eqi (hE t htn).1 ?_
        refine j_eqi (show nI (g_kd τ t) = nI 4 by rw [hk]) ?_
        refine j_tin_n C 20 (a := 4) (off := 86) 106 (by decide) dX8_faultAt_20 (by decide) (by decide) (by decide) (by decide) ?_
        refine j_aload_n C 106 2 dX8_faultAt_106 rfl rfl ?_
        refine j_get C 107 (ci := 8) hL rfl 0 (wm_o0 bd c Z L) 8 (by decide) f28 rfl (v := .ref (bd 7)) rfl dX8_faultAt_107 ?_
        refine j_iload_n C 110 1 dX8_faultAt_110 rfl rfl ?_
        refine j_zald C 111 7 1 (f := Z 7) (wm_a7 bd c Z L) rfl (by first | omega | exact e_lt (by assumption)) (by decide) dX8_faultAt_111 ?_
        refine j_eqi ((hY _ hlP.1).1.trans (by rw [hnl])) ?_
        refine j_if_eq_b C 112 (b := false) 124 dX8_faultAt_112 (by decide) (fun _ => ?_) (fun h => by cases h)
        refine j_aload_n C 124 2 dX8_faultAt_124 rfl rfl ?_
        refine j_get C 125 (ci := 8) hL rfl 0 (wm_o0 bd c Z L) 9 (by decide) f32 rfl (v := .ref (bd 8)) rfl dX8_faultAt_125 ?_
        refine j_iload_n C 128 1 dX8_faultAt_128 rfl rfl ?_
        refine j_iald C 129 8 0 (f := Z 8) (wm_a8 bd c Z L) rfl (by first | omega | exact e_lt (by assumption)) (by decide) dX8_faultAt_129 ?_
        refine j_eqi (hY _ hlP.1).2.1 ?_
        refine j_aload_n C 130 2 dX8_faultAt_130 rfl rfl ?_
        refine j_get C 131 (ci := 8) hL rfl 0 (wm_o0 bd c Z L) 9 (by decide) f32 rfl (v := .ref (bd 8)) rfl dX8_faultAt_131 ?_
        refine j_iload_n C 134 0 dX8_faultAt_134 rfl rfl ?_
        refine j_iald C 135 8 0 (f := Z 8) (wm_a8 bd c Z L) rfl (by first | omega | exact e_lt (by assumption)) (by decide) dX8_faultAt_135 ?_
        refine j_eqi (hY _ hrP.1).2.1 ?_
        refine j_iand_e C 136 (z := nI ((g_fi S (g_lf τ t)) &&& (g_fi S (g_rt τ t)))) dX8_faultAt_136 (e_and _ _) ?_
        refine j_if_eq_n C 137 144 (by first | omega | exact e_lt (by assumption)) dX8_faultAt_137 (by decide) (fun h137 => ?_) (fun h137 => ?_)
        · refine j_iconst C 144 (v := nI 0) dX8_faultAt_144 rfl ?_
          exact j_ireti C hr E (Nat.le_refl _) (Nat.le_refl _) rfl () (by unfold g_fa; rw [if_neg (by omega), if_neg (by omega), if_pos hk, if_neg (fun z => z.elim (fun z => by rw [hnl, hnr] at z; cases z) (fun z => z h137))]) rfl dX8_faultAt_145
        · refine j_iconst C 140 (v := nI 4) dX8_faultAt_140 rfl ?_
          refine j_goto C 141 145 dX8_faultAt_141 (by decide) ?_
          exact j_ireti C hr E (Nat.le_refl _) (Nat.le_refl _) rfl () (by unfold g_fa; rw [if_neg (by omega), if_neg (by omega), if_pos hk, if_pos (Or.inr h137)]) rfl dX8_faultAt_145
    | true =>
      cases hnr : g_nu S (g_rt τ t) with
      | false =>
        refine j_aload_n C 0 0 dX8_faultAt_0 rfl rfl ?_
        refine j_get C 1 (ci := 8) hL rfl 0 (wm_o0 bd c Z L) 4 (by decide) f16 rfl (v := .ref (bd 3)) rfl dX8_faultAt_1 ?_
        refine j_iload_n C 4 1 dX8_faultAt_4 rfl rfl ?_
        refine j_iald C 5 3 0 (f := Z 3) (wm_a3 bd c Z L) rfl (by first | omega | exact e_lt (by assumption)) (by decide) dX8_faultAt_5 ?_
        refine j_eqi (g_EM_lf hE htn (by omega)) ?_
        refine j_istore_n C 6 (lv' := [(2, .int (nI (g_lf τ t))), (0, .ref (bd 0)), (1, .int (nI (t)))]) dX8_faultAt_6 rfl (by rw [hn]; decide) rfl ?_
        refine j_aload_n C 7 1 dX8_faultAt_7 rfl rfl ?_
        refine j_get C 8 (ci := 8) hL rfl 0 (wm_o0 bd c Z L) 5 (by decide) f19 rfl (v := .ref (bd 4)) rfl dX8_faultAt_8 ?_
        refine j_iload_n C 11 2 dX8_faultAt_11 rfl rfl ?_
        refine j_iald C 12 4 0 (f := Z 4) (wm_a4 bd c Z L) rfl (by first | omega | exact e_lt (by assumption)) (by decide) dX8_faultAt_12 ?_
        refine j_eqi (g_EM_rt hE htn (by omega)) ?_
        refine j_istore_n C 13 (lv' := [(3, .int (nI (g_rt τ t))), (2, .int (nI (g_lf τ t))), (0, .ref (bd 0)), (1, .int (nI (t)))]) dX8_faultAt_13 rfl (by rw [hn]; decide) rfl ?_
        refine j_aload_n C 14 2 dX8_faultAt_14 rfl rfl ?_
        refine j_get C 15 (ci := 8) hL rfl 0 (wm_o0 bd c Z L) 2 (by decide) f7 rfl (v := .ref (bd 1)) rfl dX8_faultAt_15 ?_
        refine j_iload_n C 18 3 dX8_faultAt_18 rfl rfl ?_
        refine j_iald C 19 1 0 (f := Z 1) (wm_a1 bd c Z L) rfl (by first | omega | exact e_lt (by assumption)) (by decide) dX8_faultAt_19 ?_
        refine j_eqi (hE t htn).1 ?_
        refine j_eqi (show nI (g_kd τ t) = nI 4 by rw [hk]) ?_
        refine j_tin_n C 20 (a := 4) (off := 86) 106 (by decide) dX8_faultAt_20 (by decide) (by decide) (by decide) (by decide) ?_
        refine j_aload_n C 106 2 dX8_faultAt_106 rfl rfl ?_
        refine j_get C 107 (ci := 8) hL rfl 0 (wm_o0 bd c Z L) 8 (by decide) f28 rfl (v := .ref (bd 7)) rfl dX8_faultAt_107 ?_
        refine j_iload_n C 110 1 dX8_faultAt_110 rfl rfl ?_
        refine j_zald C 111 7 1 (f := Z 7) (wm_a7 bd c Z L) rfl (by first | omega | exact e_lt (by assumption)) (by decide) dX8_faultAt_111 ?_
        refine j_eqi ((hY _ hlP.1).1.trans (by rw [hnl])) ?_
        refine j_if_eq_b C 112 (b := true) 124 dX8_faultAt_112 (by decide) (fun h => by cases h) (fun _ => ?_)
        refine j_aload_n C 115 2 dX8_faultAt_115 rfl rfl ?_
        refine j_get C 116 (ci := 8) hL rfl 0 (wm_o0 bd c Z L) 8 (by decide) f28 rfl (v := .ref (bd 7)) rfl dX8_faultAt_116 ?_
        refine j_iload_n C 119 0 dX8_faultAt_119 rfl rfl ?_
        refine j_zald C 120 7 1 (f := Z 7) (wm_a7 bd c Z L) rfl (by first | omega | exact e_lt (by assumption)) (by decide) dX8_faultAt_120 ?_
        refine j_eqi ((hY _ hrP.1).1.trans (by rw [hnr])) ?_
        refine j_if_ne_b C 121 (b := false) 140 dX8_faultAt_121 (by decide) (fun h => by cases h) (fun _ => ?_)
        refine j_aload_n C 124 2 dX8_faultAt_124 rfl rfl ?_
        refine j_get C 125 (ci := 8) hL rfl 0 (wm_o0 bd c Z L) 9 (by decide) f32 rfl (v := .ref (bd 8)) rfl dX8_faultAt_125 ?_
        refine j_iload_n C 128 1 dX8_faultAt_128 rfl rfl ?_
        refine j_iald C 129 8 0 (f := Z 8) (wm_a8 bd c Z L) rfl (by first | omega | exact e_lt (by assumption)) (by decide) dX8_faultAt_129 ?_
        refine j_eqi (hY _ hlP.1).2.1 ?_
        refine j_aload_n C 130 2 dX8_faultAt_130 rfl rfl ?_
        refine j_get C 131 (ci := 8) hL rfl 0 (wm_o0 bd c Z L) 9 (by decide) f32 rfl (v := .ref (bd 8)) rfl dX8_faultAt_131 ?_
        refine j_iload_n C 134 0 dX8_faultAt_134 rfl rfl ?_
        refine j_iald C 135 8 0 (f := Z 8) (wm_a8 bd c Z L) rfl (by first | omega | exact e_lt (by assumption)) (by decide) dX8_faultAt_135 ?_
        refine j_eqi (hY _ hrP.1).2.1 ?_
        refine j_iand_e C 136 (z := nI ((g_fi S (g_lf τ t)) &&& (g_fi S (g_rt τ t)))) dX8_faultAt_136 (e_and _ _) ?_
        refine j_if_eq_n C 137 144 (by first | omega | exact e_lt (by assumption)) dX8_faultAt_137 (by decide) (fun h137 => ?_) (fun h137 => ?_)
        · refine j_iconst C 144 (v := nI 0) dX8_faultAt_144 rfl ?_
          exact j_ireti C hr E (Nat.le_refl _) (Nat.le_refl _) rfl () (by unfold g_fa; rw [if_neg (by omega), if_neg (by omega), if_pos hk, if_neg (fun z => z.elim (fun z => by rw [hnl, hnr] at z; cases z) (fun z => z h137))]) rfl dX8_faultAt_145
        · refine j_iconst C 140 (v := nI 4) dX8_faultAt_140 rfl ?_
          refine j_goto C 141 145 dX8_faultAt_141 (by decide) ?_
          exact j_ireti C hr E (Nat.le_refl _) (Nat.le_refl _) rfl () (by unfold g_fa; rw [if_neg (by omega), if_neg (by omega), if_pos hk, if_pos (Or.inr h137)]) rfl dX8_faultAt_145
      | true =>
        refine j_aload_n C 0 0 dX8_faultAt_0 rfl rfl ?_
        refine j_get C 1 (ci := 8) hL rfl 0 (wm_o0 bd c Z L) 4 (by decide) f16 rfl (v := .ref (bd 3)) rfl dX8_faultAt_1 ?_
        refine j_iload_n C 4 1 dX8_faultAt_4 rfl rfl ?_
        refine j_iald C 5 3 0 (f := Z 3) (wm_a3 bd c Z L) rfl (by first | omega | exact e_lt (by assumption)) (by decide) dX8_faultAt_5 ?_
        refine j_eqi (g_EM_lf hE htn (by omega)) ?_
        refine j_istore_n C 6 (lv' := [(2, .int (nI (g_lf τ t))), (0, .ref (bd 0)), (1, .int (nI (t)))]) dX8_faultAt_6 rfl (by rw [hn]; decide) rfl ?_
        refine j_aload_n C 7 1 dX8_faultAt_7 rfl rfl ?_
        refine j_get C 8 (ci := 8) hL rfl 0 (wm_o0 bd c Z L) 5 (by decide) f19 rfl (v := .ref (bd 4)) rfl dX8_faultAt_8 ?_
        refine j_iload_n C 11 2 dX8_faultAt_11 rfl rfl ?_
        refine j_iald C 12 4 0 (f := Z 4) (wm_a4 bd c Z L) rfl (by first | omega | exact e_lt (by assumption)) (by decide) dX8_faultAt_12 ?_
        refine j_eqi (g_EM_rt hE htn (by omega)) ?_
        refine j_istore_n C 13 (lv' := [(3, .int (nI (g_rt τ t))), (2, .int (nI (g_lf τ t))), (0, .ref (bd 0)), (1, .int (nI (t)))]) dX8_faultAt_13 rfl (by rw [hn]; decide) rfl ?_
        refine j_aload_n C 14 2 dX8_faultAt_14 rfl rfl ?_
        refine j_get C 15 (ci := 8) hL rfl 0 (wm_o0 bd c Z L) 2 (by decide) f7 rfl (v := .ref (bd 1)) rfl dX8_faultAt_15 ?_
        refine j_iload_n C 18 3 dX8_faultAt_18 rfl rfl ?_
        refine j_iald C 19 1 0 (f := Z 1) (wm_a1 bd c Z L) rfl (by first | omega | exact e_lt (by assumption)) (by decide) dX8_faultAt_19 ?_
        refine j_eqi (hE t htn).1 ?_
        refine j_eqi (show nI (g_kd τ t) = nI 4 by rw [hk]) ?_
        refine j_tin_n C 20 (a := 4) (off := 86) 106 (by decide) dX8_faultAt_20 (by decide) (by decide) (by decide) (by decide) ?_
        refine j_aload_n C 106 2 dX8_faultAt_106 rfl rfl ?_
        refine j_get C 107 (ci := 8) hL rfl 0 (wm_o0 bd c Z L) 8 (by decide) f28 rfl (v := .ref (bd 7)) rfl dX8_faultAt_107 ?_
        refine j_iload_n C 110 1 dX8_faultAt_110 rfl rfl ?_
        refine j_zald C 111 7 1 (f := Z 7) (wm_a7 bd c Z L) rfl (by first | omega | exact e_lt (by assumption)) (by decide) dX8_faultAt_111 ?_
        refine j_eqi ((hY _ hlP.1).1.trans (by rw [hnl])) ?_
        refine j_if_eq_b C 112 (b := true) 124 dX8_faultAt_112 (by decide) (fun h => by cases h) (fun _ => ?_)
        refine j_aload_n C 115 2 dX8_faultAt_115 rfl rfl ?_
        refine j_get C 116 (ci := 8) hL rfl 0 (wm_o0 bd c Z L) 8 (by decide) f28 rfl (v := .ref (bd 7)) rfl dX8_faultAt_116 ?_
        refine j_iload_n C 119 0 dX8_faultAt_119 rfl rfl ?_
        refine j_zald C 120 7 1 (f := Z 7) (wm_a7 bd c Z L) rfl (by first | omega | exact e_lt (by assumption)) (by decide) dX8_faultAt_120 ?_
        refine j_eqi ((hY _ hrP.1).1.trans (by rw [hnr])) ?_
        refine j_if_ne_b C 121 (b := true) 140 dX8_faultAt_121 (by decide) (fun _ => ?_) (fun h => by cases h)
        refine j_iconst C 140 (v := nI 4) dX8_faultAt_140 rfl ?_
        refine j_goto C 141 145 dX8_faultAt_141 (by decide) ?_
        exact j_ireti C hr E (Nat.le_refl _) (Nat.le_refl _) rfl () (by unfold g_fa; rw [if_neg (by omega), if_neg (by omega), if_pos hk, if_pos (Or.inl (by rw [hnl, hnr]; rfl))]) rfl dX8_faultAt_145
  · cases e : g_B τ root (g_sg τ t) t with
    | none =>
      refine j_aload_n C 0 0 dX8_faultAt_0 rfl rfl ?_
      refine j_get C 1 (ci := 8) hL rfl 0 (wm_o0 bd c Z L) 4 (by decide) f16 rfl (v := .ref (bd 3)) rfl dX8_faultAt_1 ?_
      refine j_iload_n C 4 1 dX8_faultAt_4 rfl rfl ?_
      refine j_iald C 5 3 0 (f := Z 3) (wm_a3 bd c Z L) rfl (by first | omega | exact e_lt (by assumption)) (by decide) dX8_faultAt_5 ?_
      refine j_istore_n C 6 (lv' := [(2, .int ((Z 3) (t))), (0, .ref (bd 0)), (1, .int (nI (t)))]) dX8_faultAt_6 rfl (by rw [hn]; decide) rfl ?_
      refine j_aload_n C 7 1 dX8_faultAt_7 rfl rfl ?_
      refine j_get C 8 (ci := 8) hL rfl 0 (wm_o0 bd c Z L) 5 (by decide) f19 rfl (v := .ref (bd 4)) rfl dX8_faultAt_8 ?_
      refine j_iload_n C 11 2 dX8_faultAt_11 rfl rfl ?_
      refine j_iald C 12 4 0 (f := Z 4) (wm_a4 bd c Z L) rfl (by first | omega | exact e_lt (by assumption)) (by decide) dX8_faultAt_12 ?_
      refine j_istore_n C 13 (lv' := [(3, .int ((Z 4) (t))), (2, .int ((Z 3) (t))), (0, .ref (bd 0)), (1, .int (nI (t)))]) dX8_faultAt_13 rfl (by rw [hn]; decide) rfl ?_
      refine j_aload_n C 14 2 dX8_faultAt_14 rfl rfl ?_
      refine j_get C 15 (ci := 8) hL rfl 0 (wm_o0 bd c Z L) 2 (by decide) f7 rfl (v := .ref (bd 1)) rfl dX8_faultAt_15 ?_
      refine j_iload_n C 18 3 dX8_faultAt_18 rfl rfl ?_
      refine j_iald C 19 1 0 (f := Z 1) (wm_a1 bd c Z L) rfl (by first | omega | exact e_lt (by assumption)) (by decide) dX8_faultAt_19 ?_
      refine j_eqi (hE t htn).1 ?_
      refine j_eqi (show nI (g_kd τ t) = nI 5 by rw [hk]) ?_
      refine j_tin_n C 20 (a := 5) (off := 28) 48 (by decide) dX8_faultAt_20 (by decide) (by decide) (by decide) (by decide) ?_
      refine j_aload_n C 48 2 dX8_faultAt_48 rfl rfl ?_
      refine j_get C 49 (ci := 8) hL rfl 0 (wm_o0 bd c Z L) 12 (by decide) f41 rfl (v := .ref (bd 11)) rfl dX8_faultAt_49 ?_
      refine j_iload_n C 52 3 dX8_faultAt_52 rfl rfl ?_
      refine j_iald C 53 11 0 (f := Z 11) (wm_a11 bd c Z L) rfl (by first | omega | exact e_lt (by assumption)) (by decide) dX8_faultAt_53 ?_
      refine j_eqi ((hB t ht hk).trans (by rw [e]; first | done | rfl)) ?_
      refine j_if_ge C 54 61 dX8_faultAt_54 (by decide) (fun h => absurd h (by decide)) (fun _ => ?_)
      refine j_iconst C 57 (v := nI 1) dX8_faultAt_57 rfl ?_
      refine j_goto C 58 74 dX8_faultAt_58 (by decide) ?_
      exact j_ireti C hr E (Nat.le_refl _) (Nat.le_refl _) rfl () (by unfold g_fa; rw [if_pos hk, e]) rfl dX8_faultAt_74
    | some k =>
      have hkn := g_P_lt hwf hr2 (g_B_some hwf hr2 _ _ ht (Nat.le_refl _) e).2.2.2.1
      refine j_aload_n C 0 0 dX8_faultAt_0 rfl rfl ?_
      refine j_get C 1 (ci := 8) hL rfl 0 (wm_o0 bd c Z L) 4 (by decide) f16 rfl (v := .ref (bd 3)) rfl dX8_faultAt_1 ?_
      refine j_iload_n C 4 1 dX8_faultAt_4 rfl rfl ?_
      refine j_iald C 5 3 0 (f := Z 3) (wm_a3 bd c Z L) rfl (by first | omega | exact e_lt (by assumption)) (by decide) dX8_faultAt_5 ?_
      refine j_istore_n C 6 (lv' := [(2, .int ((Z 3) (t))), (0, .ref (bd 0)), (1, .int (nI (t)))]) dX8_faultAt_6 rfl (by rw [hn]; decide) rfl ?_
      refine j_aload_n C 7 1 dX8_faultAt_7 rfl rfl ?_
      refine j_get C 8 (ci := 8) hL rfl 0 (wm_o0 bd c Z L) 5 (by decide) f19 rfl (v := .ref (bd 4)) rfl dX8_faultAt_8 ?_
      refine j_iload_n C 11 2 dX8_faultAt_11 rfl rfl ?_
      refine j_iald C 12 4 0 (f := Z 4) (wm_a4 bd c Z L) rfl (by first | omega | exact e_lt (by assumption)) (by decide) dX8_faultAt_12 ?_
      refine j_istore_n C 13 (lv' := [(3, .int ((Z 4) (t))), (2, .int ((Z 3) (t))), (0, .ref (bd 0)), (1, .int (nI (t)))]) dX8_faultAt_13 rfl (by rw [hn]; decide) rfl ?_
      refine j_aload_n C 14 2 dX8_faultAt_14 rfl rfl ?_
      refine j_get C 15 (ci := 8) hL rfl 0 (wm_o0 bd c Z L) 2 (by decide) f7 rfl (v := .ref (bd 1)) rfl dX8_faultAt_15 ?_
      refine j_iload_n C 18 3 dX8_faultAt_18 rfl rfl ?_
      refine j_iald C 19 1 0 (f := Z 1) (wm_a1 bd c Z L) rfl (by first | omega | exact e_lt (by assumption)) (by decide) dX8_faultAt_19 ?_
      refine j_eqi (hE t htn).1 ?_
      refine j_eqi (show nI (g_kd τ t) = nI 5 by rw [hk]) ?_
      refine j_tin_n C 20 (a := 5) (off := 28) 48 (by decide) dX8_faultAt_20 (by decide) (by decide) (by decide) (by decide) ?_
      refine j_aload_n C 48 2 dX8_faultAt_48 rfl rfl ?_
      refine j_get C 49 (ci := 8) hL rfl 0 (wm_o0 bd c Z L) 12 (by decide) f41 rfl (v := .ref (bd 11)) rfl dX8_faultAt_49 ?_
      refine j_iload_n C 52 3 dX8_faultAt_52 rfl rfl ?_
      refine j_iald C 53 11 0 (f := Z 11) (wm_a11 bd c Z L) rfl (by first | omega | exact e_lt (by assumption)) (by decide) dX8_faultAt_53 ?_
      refine j_eqi ((hB t ht hk).trans (by rw [e]; first | done | rfl)) ?_
      refine j_if_ge_n C 54 61 (by first | omega | exact e_lt (by assumption)) dX8_faultAt_54 (by decide) (fun _ => ?_) (fun h => absurd h (by omega))
      refine j_aload_n C 61 2 dX8_faultAt_61 rfl rfl ?_
      refine j_iload_n C 62 3 dX8_faultAt_62 rfl rfl ?_
      refine j_callI (mc := 0) (ms := 0) C 63 (c_X8_isGuarded (jl κ) D bd c Z L t k hwf hr2 hE ht hk hB e) gX8_faultAt_X8_isGuarded rfl rfl rfl hd_X8_isGuarded (by rw [hR]; exact ⟨Nat.le_of_ble_eq_true rfl, Nat.le_of_ble_eq_true rfl⟩) (ci := 8) rfl 0 (wm_o0 bd c Z L) rfl (Nat.le_of_ble_eq_true rfl) ⟨Nat.zero_le _, Nat.zero_le _⟩ dX8_faultAt_63 (fun r63 _ e63 => ?_)
      subst e63
      refine j_if_eq_b C 66 73 dX8_faultAt_66 (by decide) (fun h66 => ?_) (fun h66 => ?_)
      · refine j_iconst C 73 (v := nI 2) dX8_faultAt_73 rfl ?_
        exact j_ireti C hr E (Nat.le_refl _) (Nat.le_refl _) rfl () (by unfold g_fa; rw [if_pos hk, e]; simp [h66]) rfl dX8_faultAt_74
      · refine j_iconst C 69 (v := nI 0) dX8_faultAt_69 rfl ?_
        refine j_goto C 70 74 dX8_faultAt_70 (by decide) ?_
        exact j_ireti C hr E (Nat.le_refl _) (Nat.le_refl _) rfl () (by unfold g_fa; rw [if_pos hk, e]; simp [h66]) rfl dX8_faultAt_74
  · have hlP := g_lfP hwf hr2 ht (by omega)
    refine j_aload_n C 0 0 dX8_faultAt_0 rfl rfl ?_
    refine j_get C 1 (ci := 8) hL rfl 0 (wm_o0 bd c Z L) 4 (by decide) f16 rfl (v := .ref (bd 3)) rfl dX8_faultAt_1 ?_
    refine j_iload_n C 4 1 dX8_faultAt_4 rfl rfl ?_
    refine j_iald C 5 3 0 (f := Z 3) (wm_a3 bd c Z L) rfl (by first | omega | exact e_lt (by assumption)) (by decide) dX8_faultAt_5 ?_
    refine j_eqi (g_EM_lf hE htn (by omega)) ?_
    refine j_istore_n C 6 (lv' := [(2, .int (nI (g_lf τ t))), (0, .ref (bd 0)), (1, .int (nI (t)))]) dX8_faultAt_6 rfl (by rw [hn]; decide) rfl ?_
    refine j_aload_n C 7 1 dX8_faultAt_7 rfl rfl ?_
    refine j_get C 8 (ci := 8) hL rfl 0 (wm_o0 bd c Z L) 5 (by decide) f19 rfl (v := .ref (bd 4)) rfl dX8_faultAt_8 ?_
    refine j_iload_n C 11 2 dX8_faultAt_11 rfl rfl ?_
    refine j_iald C 12 4 0 (f := Z 4) (wm_a4 bd c Z L) rfl (by first | omega | exact e_lt (by assumption)) (by decide) dX8_faultAt_12 ?_
    refine j_istore_n C 13 (lv' := [(3, .int ((Z 4) (t))), (2, .int (nI (g_lf τ t))), (0, .ref (bd 0)), (1, .int (nI (t)))]) dX8_faultAt_13 rfl (by rw [hn]; decide) rfl ?_
    refine j_aload_n C 14 2 dX8_faultAt_14 rfl rfl ?_
    refine j_get C 15 (ci := 8) hL rfl 0 (wm_o0 bd c Z L) 2 (by decide) f7 rfl (v := .ref (bd 1)) rfl dX8_faultAt_15 ?_
    refine j_iload_n C 18 3 dX8_faultAt_18 rfl rfl ?_
    refine j_iald C 19 1 0 (f := Z 1) (wm_a1 bd c Z L) rfl (by first | omega | exact e_lt (by assumption)) (by decide) dX8_faultAt_19 ?_
    refine j_eqi (hE t htn).1 ?_
    refine j_eqi (show nI (g_kd τ t) = nI 6 by rw [hk]) ?_
    refine j_tout_n C 20 (a := 6) 146 (by decide) dX8_faultAt_20 (by decide) (by decide) ?_
    refine j_iconst C 146 (v := nI 0) dX8_faultAt_146 rfl ?_
    exact j_ireti C hr E (Nat.le_refl _) (Nat.le_refl _) rfl () (by unfold g_fa; rw [if_neg (by omega), if_neg (by omega), if_neg (by omega)]) rfl dX8_faultAt_147
theorem b2_inj {x y : Bool} (h : b2 x = b2 y) : x = y := by
  cases x <;> cases y
  · rfl
  · exact absurd h (by decide)
  · exact absurd h (by decide)
  · rfl
set_option maxHeartbeats 4000000 in
set_option maxRecDepth 100000 in
theorem c_X8_grow (ll : Launch) (D : va_G) (bd : Nat → Nat) (c : Nat → ClassId) (Z : ZT) (L : LT) {n : Nat} {τ : Tb} {root : Nat} (S : TS) (t : Nat) (hwf : g_WF n τ) (hr2 : root < n) (hE : g_EM n τ Z) (hB : g_BM τ root Z) (hY : g_YM τ root S Z) (hlow : g_low τ root S) (ht : t ∈ g_P τ root) : cI (S := ZT) ll yX8_grow vsX8_grow ({ frames := 0, cells := 0, slots := 0, locals := 0 } : Room) D (tysG c) [.ref (bd 0), .int (nI (t))] (wm bd c Z L) (fun Z' => wm bd c Z' L) (fun r Z' => r = b2 (decide ((g_F τ root S t) ≠ S t)) ∧ g_YM τ root (g_upS S t (g_F τ root S t)) Z' ∧ g_fr [7, 8, 9] Z Z') 0 0 := by
  refine cI_start (cc := cX8_grow) (maxL := 8) RX8 rfl (by decide +kernel) rfl (Nat.le_of_ble_eq_true rfl) ?_
  intro κ hlκ C hr _ E hR hn
  subst hlκ
  have hL : ∀ w ∈ u_ws RX8 TX8 28, w.before (ja κ) (js κ) = true := fun w h => C.t w (mX8_grow_wsX80 w h)
  have f7 : (Cond.fieldLink RX8 7 "GuardedGrammarModel" (TX8 2).2.1 (TX8 2).2.2.1).before (ja κ) (js κ) = true := C.t (.fieldLink RX8 7 "GuardedGrammarModel" "kind" "[I") (mX8_grow_o _ (by decide +kernel))
  have f13 : (Cond.fieldLink RX8 13 "GuardedGrammarModel" (TX8 3).2.1 (TX8 3).2.2.1).before (ja κ) (js κ) = true := C.t (.fieldLink RX8 13 "GuardedGrammarModel" "sign" "[I") (mX8_grow_o _ (by decide +kernel))
  have f16 : (Cond.fieldLink RX8 16 "GuardedGrammarModel" (TX8 4).2.1 (TX8 4).2.2.1).before (ja κ) (js κ) = true := C.t (.fieldLink RX8 16 "GuardedGrammarModel" "one" "[I") (mX8_grow_o _ (by decide +kernel))
  have f19 : (Cond.fieldLink RX8 19 "GuardedGrammarModel" (TX8 5).2.1 (TX8 5).2.2.1).before (ja κ) (js κ) = true := C.t (.fieldLink RX8 19 "GuardedGrammarModel" "two" "[I") (mX8_grow_o _ (by decide +kernel))
  have f28 : (Cond.fieldLink RX8 28 "GuardedGrammarModel" (TX8 8).2.1 (TX8 8).2.2.1).before (ja κ) (js κ) = true := C.t (.fieldLink RX8 28 "GuardedGrammarModel" "nullable" "[Z") (mX8_grow_o _ (by decide +kernel))
  have f32 : (Cond.fieldLink RX8 32 "GuardedGrammarModel" (TX8 9).2.1 (TX8 9).2.2.1).before (ja κ) (js κ) = true := C.t (.fieldLink RX8 32 "GuardedGrammarModel" "first" "[I") (mX8_grow_o _ (by decide +kernel))
  have f35 : (Cond.fieldLink RX8 35 "GuardedGrammarModel" (TX8 10).2.1 (TX8 10).2.2.1).before (ja κ) (js κ) = true := C.t (.fieldLink RX8 35 "GuardedGrammarModel" "after" "[I") (mX8_grow_o _ (by decide +kernel))
  have f41 : (Cond.fieldLink RX8 41 "GuardedGrammarModel" (TX8 12).2.1 (TX8 12).2.2.1).before (ja κ) (js κ) = true := C.t (.fieldLink RX8 41 "GuardedGrammarModel" "binder" "[I") (mX8_grow_o _ (by decide +kernel))
  show J D κ 0 0 0 [(0, .ref (bd 0)), (1, .int (nI (t)))] [] (wm bd c Z L)
  have hF256 := g_F_256 hwf hr2 hlow ht
  have hS256 := (hY t ht).2.2.2
  have j316 : ∀ q : Bool × Nat × Nat, q = (g_F τ root S t) → ∀ lv, lv_pick lv [0, 1, 2, 3, 4] = [(4, .int (nI q.2.2)), (3, .int (nI q.2.1)), (2, .int (b2 q.1)), (0, .ref (bd 0)), (1, .int (nI t))] → J D κ 0 0 316 lv [] (wm bd c Z L) := by
    intro q hq lv hlv
    have ht48 := hwf.1
    have htn := g_P_lt hwf hr2 ht
    have hq1 : q.2.1 < 256 := by rw [hq]; exact hF256.1
    have hq2 : q.2.2 < 256 := by rw [hq]; exact hF256.2
    refine j_lv [0, 1, 2, 3, 4] hlv ?_
    refine j_iload_n C 316 2 dX8_grow_316 rfl rfl ?_
    refine j_aload_n C 317 3 dX8_grow_317 rfl rfl ?_
    refine j_get C 318 (ci := 8) hL rfl 0 (wm_o0 bd c Z L) 8 (by decide) f28 rfl (v := .ref (bd 7)) rfl dX8_grow_318 ?_
    refine j_iload_n C 321 4 dX8_grow_321 rfl rfl ?_
    refine j_zald C 322 7 1 (f := Z 7) (wm_a7 bd c Z L) rfl (by omega) (by decide) dX8_grow_322 ?_
    refine j_eqi (hY _ ht).1 ?_
    refine j_icmp_ne C 323 347 dX8_grow_323 (by decide) (fun h323 => ?_) (fun h323 => ?_)
    · refine j_iconst C 347 (v := nI 1) dX8_grow_347 rfl ?_
      refine j_goto C 348 352 dX8_grow_348 (by decide) ?_
      refine j_istore C 352 (lv' := [(7, .int (nI (1))), (4, .int (nI (q.2.2))), (3, .int (nI (q.2.1))), (2, .int (b2 (q.1))), (0, .ref (bd 0)), (1, .int (nI (t)))]) dX8_grow_352 (by rw [hn]; decide) rfl ?_
      refine j_aload_n C 354 4 dX8_grow_354 rfl rfl ?_
      refine j_get C 355 (ci := 8) hL rfl 0 (wm_o0 bd c Z L) 8 (by decide) f28 rfl (v := .ref (bd 7)) rfl dX8_grow_355 ?_
      refine j_iload_n C 358 5 dX8_grow_358 rfl rfl ?_
      refine j_iload_n C 359 3 dX8_grow_359 rfl rfl ?_
      refine j_zast C 360 7 1 (f := Z 7) (wm_a7 bd c Z L) rfl (by omega) (by decide) (nb_b _) (wm_s7 bd c Z L (upd (Z 7) (t) (b2 (q.1)))) dX8_grow_360 ?_
      refine j_aload_n C 361 4 dX8_grow_361 rfl rfl ?_
      refine j_get C 362 (ci := 8) hL rfl 0 (wm_o0 bd c (upR Z 7 (upd (Z 7) (t) (b2 (q.1)))) L) 9 (by decide) f32 rfl (v := .ref (bd 8)) rfl dX8_grow_362 ?_
      refine j_iload_n C 365 5 dX8_grow_365 rfl rfl ?_
      refine j_iload_n C 366 2 dX8_grow_366 rfl rfl ?_
      refine j_iast C 367 8 0 (f := Z 8) (wm_a8 bd c (upR Z 7 (upd (Z 7) (t) (b2 (q.1)))) L) rfl (by omega) (by decide) (wm_s8 bd c (upR Z 7 (upd (Z 7) (t) (b2 (q.1)))) L (upd (Z 8) (t) (nI (q.2.1)))) dX8_grow_367 ?_
      refine j_aload_n C 368 4 dX8_grow_368 rfl rfl ?_
      refine j_get C 369 (ci := 8) hL rfl 0 (wm_o0 bd c (upR (upR Z 7 (upd (Z 7) (t) (b2 (q.1)))) 8 (upd (Z 8) (t) (nI (q.2.1)))) L) 10 (by decide) f35 rfl (v := .ref (bd 9)) rfl dX8_grow_369 ?_
      refine j_iload_n C 372 5 dX8_grow_372 rfl rfl ?_
      refine j_iload C 373 1 dX8_grow_373 rfl ?_
      refine j_iast C 375 9 0 (f := Z 9) (wm_a9 bd c (upR (upR Z 7 (upd (Z 7) (t) (b2 (q.1)))) 8 (upd (Z 8) (t) (nI (q.2.1)))) L) rfl (by omega) (by decide) (wm_s9 bd c (upR (upR Z 7 (upd (Z 7) (t) (b2 (q.1)))) 8 (upd (Z 8) (t) (nI (q.2.1)))) L (upd (Z 9) (t) (nI (q.2.2)))) dX8_grow_375 ?_
      refine j_iload C 376 0 dX8_grow_376 rfl ?_
      exact j_ireti C hr E (Nat.le_refl _) (Nat.le_refl _) (by decide) (upR (upR (upR Z 7 (upd (Z 7) (t) (b2 (q.1)))) 8 (upd (Z 8) (t) (nI (q.2.1)))) 9 (upd (Z 9) (t) (nI (q.2.2)))) ⟨(by rw [← hq, decide_eq_true (show q ≠ S t from fun z => h323 (by rw [z]))]; rfl), by rw [← hq]; exact g_YM_up hY hq1 hq2, g_fr_up (g_fr_up (g_fr_up g_fr_rfl (by decide) _) (by decide) _) (by decide) _⟩ rfl dX8_grow_378
    · refine j_iload_n C 326 1 dX8_grow_326 rfl rfl ?_
      refine j_aload_n C 327 3 dX8_grow_327 rfl rfl ?_
      refine j_get C 328 (ci := 8) hL rfl 0 (wm_o0 bd c Z L) 9 (by decide) f32 rfl (v := .ref (bd 8)) rfl dX8_grow_328 ?_
      refine j_iload_n C 331 4 dX8_grow_331 rfl rfl ?_
      refine j_iald C 332 8 0 (f := Z 8) (wm_a8 bd c Z L) rfl (by omega) (by decide) dX8_grow_332 ?_
      refine j_eqi (hY _ ht).2.1 ?_
      refine j_icmp_ne_n C 333 347 (by omega) (by omega) dX8_grow_333 (by decide) (fun h333 => ?_) (fun h333 => ?_)
      · refine j_iconst C 347 (v := nI 1) dX8_grow_347 rfl ?_
        refine j_goto C 348 352 dX8_grow_348 (by decide) ?_
        refine j_istore C 352 (lv' := [(7, .int (nI (1))), (4, .int (nI (q.2.2))), (3, .int (nI (q.2.1))), (2, .int (b2 (q.1))), (0, .ref (bd 0)), (1, .int (nI (t)))]) dX8_grow_352 (by rw [hn]; decide) rfl ?_
        refine j_aload_n C 354 4 dX8_grow_354 rfl rfl ?_
        refine j_get C 355 (ci := 8) hL rfl 0 (wm_o0 bd c Z L) 8 (by decide) f28 rfl (v := .ref (bd 7)) rfl dX8_grow_355 ?_
        refine j_iload_n C 358 5 dX8_grow_358 rfl rfl ?_
        refine j_iload_n C 359 3 dX8_grow_359 rfl rfl ?_
        refine j_zast C 360 7 1 (f := Z 7) (wm_a7 bd c Z L) rfl (by omega) (by decide) (nb_b _) (wm_s7 bd c Z L (upd (Z 7) (t) (b2 (q.1)))) dX8_grow_360 ?_
        refine j_aload_n C 361 4 dX8_grow_361 rfl rfl ?_
        refine j_get C 362 (ci := 8) hL rfl 0 (wm_o0 bd c (upR Z 7 (upd (Z 7) (t) (b2 (q.1)))) L) 9 (by decide) f32 rfl (v := .ref (bd 8)) rfl dX8_grow_362 ?_
        refine j_iload_n C 365 5 dX8_grow_365 rfl rfl ?_
        refine j_iload_n C 366 2 dX8_grow_366 rfl rfl ?_
        refine j_iast C 367 8 0 (f := Z 8) (wm_a8 bd c (upR Z 7 (upd (Z 7) (t) (b2 (q.1)))) L) rfl (by omega) (by decide) (wm_s8 bd c (upR Z 7 (upd (Z 7) (t) (b2 (q.1)))) L (upd (Z 8) (t) (nI (q.2.1)))) dX8_grow_367 ?_
        refine j_aload_n C 368 4 dX8_grow_368 rfl rfl ?_
        refine j_get C 369 (ci := 8) hL rfl 0 (wm_o0 bd c (upR (upR Z 7 (upd (Z 7) (t) (b2 (q.1)))) 8 (upd (Z 8) (t) (nI (q.2.1)))) L) 10 (by decide) f35 rfl (v := .ref (bd 9)) rfl dX8_grow_369 ?_
        refine j_iload_n C 372 5 dX8_grow_372 rfl rfl ?_
        refine j_iload C 373 1 dX8_grow_373 rfl ?_
        refine j_iast C 375 9 0 (f := Z 9) (wm_a9 bd c (upR (upR Z 7 (upd (Z 7) (t) (b2 (q.1)))) 8 (upd (Z 8) (t) (nI (q.2.1)))) L) rfl (by omega) (by decide) (wm_s9 bd c (upR (upR Z 7 (upd (Z 7) (t) (b2 (q.1)))) 8 (upd (Z 8) (t) (nI (q.2.1)))) L (upd (Z 9) (t) (nI (q.2.2)))) dX8_grow_375 ?_
        refine j_iload C 376 0 dX8_grow_376 rfl ?_
        exact j_ireti C hr E (Nat.le_refl _) (Nat.le_refl _) (by decide) (upR (upR (upR Z 7 (upd (Z 7) (t) (b2 (q.1)))) 8 (upd (Z 8) (t) (nI (q.2.1)))) 9 (upd (Z 9) (t) (nI (q.2.2)))) ⟨(by rw [← hq, decide_eq_true (show q ≠ S t from fun z => h333 (by rw [z]))]; rfl), by rw [← hq]; exact g_YM_up hY hq1 hq2, g_fr_up (g_fr_up (g_fr_up g_fr_rfl (by decide) _) (by decide) _) (by decide) _⟩ rfl dX8_grow_378
      · refine j_iload C 336 0 dX8_grow_336 rfl ?_
        refine j_aload_n C 338 3 dX8_grow_338 rfl rfl ?_
        refine j_get C 339 (ci := 8) hL rfl 0 (wm_o0 bd c Z L) 10 (by decide) f35 rfl (v := .ref (bd 9)) rfl dX8_grow_339 ?_
        refine j_iload_n C 342 4 dX8_grow_342 rfl rfl ?_
        refine j_iald C 343 9 0 (f := Z 9) (wm_a9 bd c Z L) rfl (by omega) (by decide) dX8_grow_343 ?_
        refine j_eqi (hY _ ht).2.2.1 ?_
        refine j_icmp_eq_n C 344 351 (by omega) (by omega) dX8_grow_344 (by decide) (fun h344 => ?_) (fun h344 => ?_)
        · refine j_iconst C 351 (v := nI 0) dX8_grow_351 rfl ?_
          refine j_istore C 352 (lv' := [(7, .int (nI (0))), (4, .int (nI (q.2.2))), (3, .int (nI (q.2.1))), (2, .int (b2 (q.1))), (0, .ref (bd 0)), (1, .int (nI (t)))]) dX8_grow_352 (by rw [hn]; decide) rfl ?_
          refine j_aload_n C 354 4 dX8_grow_354 rfl rfl ?_
          refine j_get C 355 (ci := 8) hL rfl 0 (wm_o0 bd c Z L) 8 (by decide) f28 rfl (v := .ref (bd 7)) rfl dX8_grow_355 ?_
          refine j_iload_n C 358 5 dX8_grow_358 rfl rfl ?_
          refine j_iload_n C 359 3 dX8_grow_359 rfl rfl ?_
          refine j_zast C 360 7 1 (f := Z 7) (wm_a7 bd c Z L) rfl (by omega) (by decide) (nb_b _) (wm_s7 bd c Z L (upd (Z 7) (t) (b2 (q.1)))) dX8_grow_360 ?_
          refine j_aload_n C 361 4 dX8_grow_361 rfl rfl ?_
          refine j_get C 362 (ci := 8) hL rfl 0 (wm_o0 bd c (upR Z 7 (upd (Z 7) (t) (b2 (q.1)))) L) 9 (by decide) f32 rfl (v := .ref (bd 8)) rfl dX8_grow_362 ?_
          refine j_iload_n C 365 5 dX8_grow_365 rfl rfl ?_
          refine j_iload_n C 366 2 dX8_grow_366 rfl rfl ?_
          refine j_iast C 367 8 0 (f := Z 8) (wm_a8 bd c (upR Z 7 (upd (Z 7) (t) (b2 (q.1)))) L) rfl (by omega) (by decide) (wm_s8 bd c (upR Z 7 (upd (Z 7) (t) (b2 (q.1)))) L (upd (Z 8) (t) (nI (q.2.1)))) dX8_grow_367 ?_
          refine j_aload_n C 368 4 dX8_grow_368 rfl rfl ?_
          refine j_get C 369 (ci := 8) hL rfl 0 (wm_o0 bd c (upR (upR Z 7 (upd (Z 7) (t) (b2 (q.1)))) 8 (upd (Z 8) (t) (nI (q.2.1)))) L) 10 (by decide) f35 rfl (v := .ref (bd 9)) rfl dX8_grow_369 ?_
          refine j_iload_n C 372 5 dX8_grow_372 rfl rfl ?_
          refine j_iload C 373 1 dX8_grow_373 rfl ?_
          refine j_iast C 375 9 0 (f := Z 9) (wm_a9 bd c (upR (upR Z 7 (upd (Z 7) (t) (b2 (q.1)))) 8 (upd (Z 8) (t) (nI (q.2.1)))) L) rfl (by omega) (by decide) (wm_s9 bd c (upR (upR Z 7 (upd (Z 7) (t) (b2 (q.1)))) 8 (upd (Z 8) (t) (nI (q.2.1)))) L (upd (Z 9) (t) (nI (q.2.2)))) dX8_grow_375 ?_
          refine j_iload C 376 0 dX8_grow_376 rfl ?_
          exact j_ireti C hr E (Nat.le_refl _) (Nat.le_refl _) (by decide) (upR (upR (upR Z 7 (upd (Z 7) (t) (b2 (q.1)))) 8 (upd (Z 8) (t) (nI (q.2.1)))) 9 (upd (Z 9) (t) (nI (q.2.2)))) ⟨(by rw [← hq, decide_eq_false (show ¬ q ≠ S t from fun z => z (Prod.ext (b2_inj h323) (Prod.ext h333 h344)))]; rfl), by rw [← hq]; exact g_YM_up hY hq1 hq2, g_fr_up (g_fr_up (g_fr_up g_fr_rfl (by decide) _) (by decide) _) (by decide) _⟩ rfl dX8_grow_378
        · refine j_iconst C 347 (v := nI 1) dX8_grow_347 rfl ?_
          refine j_goto C 348 352 dX8_grow_348 (by decide) ?_
          refine j_istore C 352 (lv' := [(7, .int (nI (1))), (4, .int (nI (q.2.2))), (3, .int (nI (q.2.1))), (2, .int (b2 (q.1))), (0, .ref (bd 0)), (1, .int (nI (t)))]) dX8_grow_352 (by rw [hn]; decide) rfl ?_
          refine j_aload_n C 354 4 dX8_grow_354 rfl rfl ?_
          refine j_get C 355 (ci := 8) hL rfl 0 (wm_o0 bd c Z L) 8 (by decide) f28 rfl (v := .ref (bd 7)) rfl dX8_grow_355 ?_
          refine j_iload_n C 358 5 dX8_grow_358 rfl rfl ?_
          refine j_iload_n C 359 3 dX8_grow_359 rfl rfl ?_
          refine j_zast C 360 7 1 (f := Z 7) (wm_a7 bd c Z L) rfl (by omega) (by decide) (nb_b _) (wm_s7 bd c Z L (upd (Z 7) (t) (b2 (q.1)))) dX8_grow_360 ?_
          refine j_aload_n C 361 4 dX8_grow_361 rfl rfl ?_
          refine j_get C 362 (ci := 8) hL rfl 0 (wm_o0 bd c (upR Z 7 (upd (Z 7) (t) (b2 (q.1)))) L) 9 (by decide) f32 rfl (v := .ref (bd 8)) rfl dX8_grow_362 ?_
          refine j_iload_n C 365 5 dX8_grow_365 rfl rfl ?_
          refine j_iload_n C 366 2 dX8_grow_366 rfl rfl ?_
          refine j_iast C 367 8 0 (f := Z 8) (wm_a8 bd c (upR Z 7 (upd (Z 7) (t) (b2 (q.1)))) L) rfl (by omega) (by decide) (wm_s8 bd c (upR Z 7 (upd (Z 7) (t) (b2 (q.1)))) L (upd (Z 8) (t) (nI (q.2.1)))) dX8_grow_367 ?_
          refine j_aload_n C 368 4 dX8_grow_368 rfl rfl ?_
          refine j_get C 369 (ci := 8) hL rfl 0 (wm_o0 bd c (upR (upR Z 7 (upd (Z 7) (t) (b2 (q.1)))) 8 (upd (Z 8) (t) (nI (q.2.1)))) L) 10 (by decide) f35 rfl (v := .ref (bd 9)) rfl dX8_grow_369 ?_
          refine j_iload_n C 372 5 dX8_grow_372 rfl rfl ?_
          refine j_iload C 373 1 dX8_grow_373 rfl ?_
          refine j_iast C 375 9 0 (f := Z 9) (wm_a9 bd c (upR (upR Z 7 (upd (Z 7) (t) (b2 (q.1)))) 8 (upd (Z 8) (t) (nI (q.2.1)))) L) rfl (by omega) (by decide) (wm_s9 bd c (upR (upR Z 7 (upd (Z 7) (t) (b2 (q.1)))) 8 (upd (Z 8) (t) (nI (q.2.1)))) L (upd (Z 9) (t) (nI (q.2.2)))) dX8_grow_375 ?_
          refine j_iload C 376 0 dX8_grow_376 rfl ?_
          exact j_ireti C hr E (Nat.le_refl _) (Nat.le_refl _) (by decide) (upR (upR (upR Z 7 (upd (Z 7) (t) (b2 (q.1)))) 8 (upd (Z 8) (t) (nI (q.2.1)))) 9 (upd (Z 9) (t) (nI (q.2.2)))) ⟨(by rw [← hq, decide_eq_true (show q ≠ S t from fun z => h344 (by rw [z]))]; rfl), by rw [← hq]; exact g_YM_up hY hq1 hq2, g_fr_up (g_fr_up (g_fr_up g_fr_rfl (by decide) _) (by decide) _) (by decide) _⟩ rfl dX8_grow_378
  have ht48 := hwf.1
  have htn := g_P_lt hwf hr2 ht
  have hk6 : g_kd τ t ≤ 6 := (hwf.2 t htn).1
  have hk : g_kd τ t = 0 ∨ g_kd τ t = 1 ∨ g_kd τ t = 2 ∨ g_kd τ t = 3 ∨ g_kd τ t = 4 ∨ g_kd τ t = 5 ∨ g_kd τ t = 6 := by omega
  rcases hk with hk | hk | hk | hk | hk | hk | hk
  · refine j_aload_n C 0 0 dX8_grow_0 rfl rfl ?_
    refine j_get C 1 (ci := 8) hL rfl 0 (wm_o0 bd c Z L) 2 (by decide) f7 rfl (v := .ref (bd 1)) rfl dX8_grow_1 ?_
    refine j_iload_n C 4 1 dX8_grow_4 rfl rfl ?_
    refine j_iald C 5 1 0 (f := Z 1) (wm_a1 bd c Z L) rfl (by omega) (by decide) dX8_grow_5 ?_
    refine j_eqi (hE t htn).1 ?_
    refine j_if_ne_n C 6 13 (by omega) dX8_grow_6 (by decide) (fun h => absurd h (by omega)) (fun _ => ?_)
    refine j_iconst C 9 (v := nI 1) dX8_grow_9 rfl ?_
    refine j_goto C 10 14 dX8_grow_10 (by decide) ?_
    refine j_istore_n C 14 (lv' := [(2, .int (nI (1))), (0, .ref (bd 0)), (1, .int (nI (t)))]) dX8_grow_14 rfl (by rw [hn]; decide) rfl ?_
    refine j_aload_n C 15 1 dX8_grow_15 rfl rfl ?_
    refine j_get C 16 (ci := 8) hL rfl 0 (wm_o0 bd c Z L) 2 (by decide) f7 rfl (v := .ref (bd 1)) rfl dX8_grow_16 ?_
    refine j_iload_n C 19 2 dX8_grow_19 rfl rfl ?_
    refine j_iald C 20 1 0 (f := Z 1) (wm_a1 bd c Z L) rfl (by omega) (by decide) dX8_grow_20 ?_
    refine j_eqi (hE t htn).1 ?_
    refine j_iconst C 21 (v := nI 2) dX8_grow_21 rfl ?_
    refine j_icmp_ne_n C 22 36 (by omega) (by omega) dX8_grow_22 (by decide) (fun _ => ?_) (fun h => absurd h (by omega))
    refine j_iconst C 36 (v := nI 0) dX8_grow_36 rfl ?_
    refine j_istore_n C 37 (lv' := [(3, .int (nI (0))), (2, .int (nI (1))), (0, .ref (bd 0)), (1, .int (nI (t)))]) dX8_grow_37 rfl (by rw [hn]; decide) rfl ?_
    refine j_iconst C 38 (v := nI 0) dX8_grow_38 rfl ?_
    refine j_istore C 39 (lv' := [(4, .int (nI (0))), (3, .int (nI (0))), (2, .int (nI (1))), (0, .ref (bd 0)), (1, .int (nI (t)))]) dX8_grow_39 (by rw [hn]; decide) rfl ?_
    refine j_aload_n C 41 3 dX8_grow_41 rfl rfl ?_
    refine j_get C 42 (ci := 8) hL rfl 0 (wm_o0 bd c Z L) 4 (by decide) f16 rfl (v := .ref (bd 3)) rfl dX8_grow_42 ?_
    refine j_iload_n C 45 4 dX8_grow_45 rfl rfl ?_
    refine j_iald C 46 3 0 (f := Z 3) (wm_a3 bd c Z L) rfl (by omega) (by decide) dX8_grow_46 ?_
    refine j_istore C 47 (lv' := [(5, .int ((Z 3) (t))), (4, .int (nI (0))), (3, .int (nI (0))), (2, .int (nI (1))), (0, .ref (bd 0)), (1, .int (nI (t)))]) dX8_grow_47 (by rw [hn]; decide) rfl ?_
    refine j_aload_n C 49 4 dX8_grow_49 rfl rfl ?_
    refine j_get C 50 (ci := 8) hL rfl 0 (wm_o0 bd c Z L) 5 (by decide) f19 rfl (v := .ref (bd 4)) rfl dX8_grow_50 ?_
    refine j_iload_n C 53 5 dX8_grow_53 rfl rfl ?_
    refine j_iald C 54 4 0 (f := Z 4) (wm_a4 bd c Z L) rfl (by omega) (by decide) dX8_grow_54 ?_
    refine j_istore C 55 (lv' := [(6, .int ((Z 4) (t))), (5, .int ((Z 3) (t))), (4, .int (nI (0))), (3, .int (nI (0))), (2, .int (nI (1))), (0, .ref (bd 0)), (1, .int (nI (t)))]) dX8_grow_55 (by rw [hn]; decide) rfl ?_
    refine j_aload_n C 57 5 dX8_grow_57 rfl rfl ?_
    refine j_get C 58 (ci := 8) hL rfl 0 (wm_o0 bd c Z L) 2 (by decide) f7 rfl (v := .ref (bd 1)) rfl dX8_grow_58 ?_
    refine j_iload_n C 61 6 dX8_grow_61 rfl rfl ?_
    refine j_iald C 62 1 0 (f := Z 1) (wm_a1 bd c Z L) rfl (by omega) (by decide) dX8_grow_62 ?_
    refine j_eqi (hE t htn).1 ?_
    refine j_iconst C 63 (v := nI 3) dX8_grow_63 rfl ?_
    refine j_icmp_ne_n C 64 165 (by omega) (by omega) dX8_grow_64 (by decide) (fun _ => ?_) (fun h => absurd h (by omega))
    refine j_aload_n C 165 5 dX8_grow_165 rfl rfl ?_
    refine j_get C 166 (ci := 8) hL rfl 0 (wm_o0 bd c Z L) 2 (by decide) f7 rfl (v := .ref (bd 1)) rfl dX8_grow_166 ?_
    refine j_iload_n C 169 6 dX8_grow_169 rfl rfl ?_
    refine j_iald C 170 1 0 (f := Z 1) (wm_a1 bd c Z L) rfl (by omega) (by decide) dX8_grow_170 ?_
    refine j_eqi (hE t htn).1 ?_
    refine j_iconst C 171 (v := nI 4) dX8_grow_171 rfl ?_
    refine j_icmp_ne_n C 172 237 (by omega) (by omega) dX8_grow_172 (by decide) (fun _ => ?_) (fun h => absurd h (by omega))
    refine j_aload_n C 237 5 dX8_grow_237 rfl rfl ?_
    refine j_get C 238 (ci := 8) hL rfl 0 (wm_o0 bd c Z L) 2 (by decide) f7 rfl (v := .ref (bd 1)) rfl dX8_grow_238 ?_
    refine j_iload_n C 241 6 dX8_grow_241 rfl rfl ?_
    refine j_iald C 242 1 0 (f := Z 1) (wm_a1 bd c Z L) rfl (by omega) (by decide) dX8_grow_242 ?_
    refine j_eqi (hE t htn).1 ?_
    refine j_bipush C 243 (v := nI 6) dX8_grow_243 rfl ?_
    refine j_icmp_eq_n C 245 267 (by omega) (by omega) dX8_grow_245 (by decide) (fun h => absurd h (by omega)) (fun _ => ?_)
    refine j_aload_n C 248 5 dX8_grow_248 rfl rfl ?_
    refine j_get C 249 (ci := 8) hL rfl 0 (wm_o0 bd c Z L) 2 (by decide) f7 rfl (v := .ref (bd 1)) rfl dX8_grow_249 ?_
    refine j_iload_n C 252 6 dX8_grow_252 rfl rfl ?_
    refine j_iald C 253 1 0 (f := Z 1) (wm_a1 bd c Z L) rfl (by omega) (by decide) dX8_grow_253 ?_
    refine j_eqi (hE t htn).1 ?_
    refine j_iconst C 254 (v := nI 5) dX8_grow_254 rfl ?_
    refine j_icmp_ne_n C 255 316 (by omega) (by omega) dX8_grow_255 (by decide) (fun _ => ?_) (fun h => absurd h (by omega))
    exact j_lv [2, 3, 4, 5, 6] rfl (j316 (true, 0, 0) (by rw [g_Fk0 hk]) _ rfl)
  · refine j_aload_n C 0 0 dX8_grow_0 rfl rfl ?_
    refine j_get C 1 (ci := 8) hL rfl 0 (wm_o0 bd c Z L) 2 (by decide) f7 rfl (v := .ref (bd 1)) rfl dX8_grow_1 ?_
    refine j_iload_n C 4 1 dX8_grow_4 rfl rfl ?_
    refine j_iald C 5 1 0 (f := Z 1) (wm_a1 bd c Z L) rfl (by omega) (by decide) dX8_grow_5 ?_
    refine j_eqi (hE t htn).1 ?_
    refine j_if_ne_n C 6 13 (by omega) dX8_grow_6 (by decide) (fun _ => ?_) (fun h => absurd h (by omega))
    refine j_iconst C 13 (v := nI 0) dX8_grow_13 rfl ?_
    refine j_istore_n C 14 (lv' := [(2, .int (nI (0))), (0, .ref (bd 0)), (1, .int (nI (t)))]) dX8_grow_14 rfl (by rw [hn]; decide) rfl ?_
    refine j_aload_n C 15 1 dX8_grow_15 rfl rfl ?_
    refine j_get C 16 (ci := 8) hL rfl 0 (wm_o0 bd c Z L) 2 (by decide) f7 rfl (v := .ref (bd 1)) rfl dX8_grow_16 ?_
    refine j_iload_n C 19 2 dX8_grow_19 rfl rfl ?_
    refine j_iald C 20 1 0 (f := Z 1) (wm_a1 bd c Z L) rfl (by omega) (by decide) dX8_grow_20 ?_
    refine j_eqi (hE t htn).1 ?_
    refine j_iconst C 21 (v := nI 2) dX8_grow_21 rfl ?_
    refine j_icmp_ne_n C 22 36 (by omega) (by omega) dX8_grow_22 (by decide) (fun _ => ?_) (fun h => absurd h (by omega))
    refine j_iconst C 36 (v := nI 0) dX8_grow_36 rfl ?_
    refine j_istore_n C 37 (lv' := [(3, .int (nI (0))), (2, .int (nI (0))), (0, .ref (bd 0)), (1, .int (nI (t)))]) dX8_grow_37 rfl (by rw [hn]; decide) rfl ?_
    refine j_iconst C 38 (v := nI 0) dX8_grow_38 rfl ?_
    refine j_istore C 39 (lv' := [(4, .int (nI (0))), (3, .int (nI (0))), (2, .int (nI (0))), (0, .ref (bd 0)), (1, .int (nI (t)))]) dX8_grow_39 (by rw [hn]; decide) rfl ?_
    refine j_aload_n C 41 3 dX8_grow_41 rfl rfl ?_
    refine j_get C 42 (ci := 8) hL rfl 0 (wm_o0 bd c Z L) 4 (by decide) f16 rfl (v := .ref (bd 3)) rfl dX8_grow_42 ?_
    refine j_iload_n C 45 4 dX8_grow_45 rfl rfl ?_
    refine j_iald C 46 3 0 (f := Z 3) (wm_a3 bd c Z L) rfl (by omega) (by decide) dX8_grow_46 ?_
    refine j_istore C 47 (lv' := [(5, .int ((Z 3) (t))), (4, .int (nI (0))), (3, .int (nI (0))), (2, .int (nI (0))), (0, .ref (bd 0)), (1, .int (nI (t)))]) dX8_grow_47 (by rw [hn]; decide) rfl ?_
    refine j_aload_n C 49 4 dX8_grow_49 rfl rfl ?_
    refine j_get C 50 (ci := 8) hL rfl 0 (wm_o0 bd c Z L) 5 (by decide) f19 rfl (v := .ref (bd 4)) rfl dX8_grow_50 ?_
    refine j_iload_n C 53 5 dX8_grow_53 rfl rfl ?_
    refine j_iald C 54 4 0 (f := Z 4) (wm_a4 bd c Z L) rfl (by omega) (by decide) dX8_grow_54 ?_
    refine j_istore C 55 (lv' := [(6, .int ((Z 4) (t))), (5, .int ((Z 3) (t))), (4, .int (nI (0))), (3, .int (nI (0))), (2, .int (nI (0))), (0, .ref (bd 0)), (1, .int (nI (t)))]) dX8_grow_55 (by rw [hn]; decide) rfl ?_
    refine j_aload_n C 57 5 dX8_grow_57 rfl rfl ?_
    refine j_get C 58 (ci := 8) hL rfl 0 (wm_o0 bd c Z L) 2 (by decide) f7 rfl (v := .ref (bd 1)) rfl dX8_grow_58 ?_
    refine j_iload_n C 61 6 dX8_grow_61 rfl rfl ?_
    refine j_iald C 62 1 0 (f := Z 1) (wm_a1 bd c Z L) rfl (by omega) (by decide) dX8_grow_62 ?_
    refine j_eqi (hE t htn).1 ?_
    refine j_iconst C 63 (v := nI 3) dX8_grow_63 rfl ?_
    refine j_icmp_ne_n C 64 165 (by omega) (by omega) dX8_grow_64 (by decide) (fun _ => ?_) (fun h => absurd h (by omega))
    refine j_aload_n C 165 5 dX8_grow_165 rfl rfl ?_
    refine j_get C 166 (ci := 8) hL rfl 0 (wm_o0 bd c Z L) 2 (by decide) f7 rfl (v := .ref (bd 1)) rfl dX8_grow_166 ?_
    refine j_iload_n C 169 6 dX8_grow_169 rfl rfl ?_
    refine j_iald C 170 1 0 (f := Z 1) (wm_a1 bd c Z L) rfl (by omega) (by decide) dX8_grow_170 ?_
    refine j_eqi (hE t htn).1 ?_
    refine j_iconst C 171 (v := nI 4) dX8_grow_171 rfl ?_
    refine j_icmp_ne_n C 172 237 (by omega) (by omega) dX8_grow_172 (by decide) (fun _ => ?_) (fun h => absurd h (by omega))
    refine j_aload_n C 237 5 dX8_grow_237 rfl rfl ?_
    refine j_get C 238 (ci := 8) hL rfl 0 (wm_o0 bd c Z L) 2 (by decide) f7 rfl (v := .ref (bd 1)) rfl dX8_grow_238 ?_
    refine j_iload_n C 241 6 dX8_grow_241 rfl rfl ?_
    refine j_iald C 242 1 0 (f := Z 1) (wm_a1 bd c Z L) rfl (by omega) (by decide) dX8_grow_242 ?_
    refine j_eqi (hE t htn).1 ?_
    refine j_bipush C 243 (v := nI 6) dX8_grow_243 rfl ?_
    refine j_icmp_eq_n C 245 267 (by omega) (by omega) dX8_grow_245 (by decide) (fun h => absurd h (by omega)) (fun _ => ?_)
    refine j_aload_n C 248 5 dX8_grow_248 rfl rfl ?_
    refine j_get C 249 (ci := 8) hL rfl 0 (wm_o0 bd c Z L) 2 (by decide) f7 rfl (v := .ref (bd 1)) rfl dX8_grow_249 ?_
    refine j_iload_n C 252 6 dX8_grow_252 rfl rfl ?_
    refine j_iald C 253 1 0 (f := Z 1) (wm_a1 bd c Z L) rfl (by omega) (by decide) dX8_grow_253 ?_
    refine j_eqi (hE t htn).1 ?_
    refine j_iconst C 254 (v := nI 5) dX8_grow_254 rfl ?_
    refine j_icmp_ne_n C 255 316 (by omega) (by omega) dX8_grow_255 (by decide) (fun _ => ?_) (fun h => absurd h (by omega))
    exact j_lv [2, 3, 4, 5, 6] rfl (j316 (false, 0, 0) (by rw [g_Fk1 hk]) _ rfl)
  · refine j_aload_n C 0 0 dX8_grow_0 rfl rfl ?_
    refine j_get C 1 (ci := 8) hL rfl 0 (wm_o0 bd c Z L) 2 (by decide) f7 rfl (v := .ref (bd 1)) rfl dX8_grow_1 ?_
    refine j_iload_n C 4 1 dX8_grow_4 rfl rfl ?_
    refine j_iald C 5 1 0 (f := Z 1) (wm_a1 bd c Z L) rfl (by omega) (by decide) dX8_grow_5 ?_
    refine j_eqi (hE t htn).1 ?_
    refine j_if_ne_n C 6 13 (by omega) dX8_grow_6 (by decide) (fun _ => ?_) (fun h => absurd h (by omega))
    refine j_iconst C 13 (v := nI 0) dX8_grow_13 rfl ?_
    refine j_istore_n C 14 (lv' := [(2, .int (nI (0))), (0, .ref (bd 0)), (1, .int (nI (t)))]) dX8_grow_14 rfl (by rw [hn]; decide) rfl ?_
    refine j_aload_n C 15 1 dX8_grow_15 rfl rfl ?_
    refine j_get C 16 (ci := 8) hL rfl 0 (wm_o0 bd c Z L) 2 (by decide) f7 rfl (v := .ref (bd 1)) rfl dX8_grow_16 ?_
    refine j_iload_n C 19 2 dX8_grow_19 rfl rfl ?_
    refine j_iald C 20 1 0 (f := Z 1) (wm_a1 bd c Z L) rfl (by omega) (by decide) dX8_grow_20 ?_
    refine j_eqi (hE t htn).1 ?_
    refine j_iconst C 21 (v := nI 2) dX8_grow_21 rfl ?_
    refine j_icmp_ne_n C 22 36 (by omega) (by omega) dX8_grow_22 (by decide) (fun h => absurd h (by omega)) (fun _ => ?_)
    refine j_iconst C 25 (v := nI 1) dX8_grow_25 rfl ?_
    refine j_aload_n C 26 1 dX8_grow_26 rfl rfl ?_
    refine j_get C 27 (ci := 8) hL rfl 0 (wm_o0 bd c Z L) 3 (by decide) f13 rfl (v := .ref (bd 2)) rfl dX8_grow_27 ?_
    refine j_iload_n C 30 2 dX8_grow_30 rfl rfl ?_
    refine j_iald C 31 2 0 (f := Z 2) (wm_a2 bd c Z L) rfl (by omega) (by decide) dX8_grow_31 ?_
    refine j_eqi ((hE t htn).2.1 (by omega)) ?_
    refine j_ishl C 32 dX8_grow_32 ?_
    refine j_eqi (e_shl _ ((hwf.2 t htn).2.1 hk)) ?_
    refine j_goto C 33 37 dX8_grow_33 (by decide) ?_
    refine j_istore_n C 37 (lv' := [(3, .int (nI (2 ^ g_sg τ t))), (2, .int (nI (0))), (0, .ref (bd 0)), (1, .int (nI (t)))]) dX8_grow_37 rfl (by rw [hn]; decide) rfl ?_
    refine j_iconst C 38 (v := nI 0) dX8_grow_38 rfl ?_
    refine j_istore C 39 (lv' := [(4, .int (nI (0))), (3, .int (nI (2 ^ g_sg τ t))), (2, .int (nI (0))), (0, .ref (bd 0)), (1, .int (nI (t)))]) dX8_grow_39 (by rw [hn]; decide) rfl ?_
    refine j_aload_n C 41 3 dX8_grow_41 rfl rfl ?_
    refine j_get C 42 (ci := 8) hL rfl 0 (wm_o0 bd c Z L) 4 (by decide) f16 rfl (v := .ref (bd 3)) rfl dX8_grow_42 ?_
    refine j_iload_n C 45 4 dX8_grow_45 rfl rfl ?_
    refine j_iald C 46 3 0 (f := Z 3) (wm_a3 bd c Z L) rfl (by omega) (by decide) dX8_grow_46 ?_
    refine j_istore C 47 (lv' := [(5, .int ((Z 3) (t))), (4, .int (nI (0))), (3, .int (nI (2 ^ g_sg τ t))), (2, .int (nI (0))), (0, .ref (bd 0)), (1, .int (nI (t)))]) dX8_grow_47 (by rw [hn]; decide) rfl ?_
    refine j_aload_n C 49 4 dX8_grow_49 rfl rfl ?_
    refine j_get C 50 (ci := 8) hL rfl 0 (wm_o0 bd c Z L) 5 (by decide) f19 rfl (v := .ref (bd 4)) rfl dX8_grow_50 ?_
    refine j_iload_n C 53 5 dX8_grow_53 rfl rfl ?_
    refine j_iald C 54 4 0 (f := Z 4) (wm_a4 bd c Z L) rfl (by omega) (by decide) dX8_grow_54 ?_
    refine j_istore C 55 (lv' := [(6, .int ((Z 4) (t))), (5, .int ((Z 3) (t))), (4, .int (nI (0))), (3, .int (nI (2 ^ g_sg τ t))), (2, .int (nI (0))), (0, .ref (bd 0)), (1, .int (nI (t)))]) dX8_grow_55 (by rw [hn]; decide) rfl ?_
    refine j_aload_n C 57 5 dX8_grow_57 rfl rfl ?_
    refine j_get C 58 (ci := 8) hL rfl 0 (wm_o0 bd c Z L) 2 (by decide) f7 rfl (v := .ref (bd 1)) rfl dX8_grow_58 ?_
    refine j_iload_n C 61 6 dX8_grow_61 rfl rfl ?_
    refine j_iald C 62 1 0 (f := Z 1) (wm_a1 bd c Z L) rfl (by omega) (by decide) dX8_grow_62 ?_
    refine j_eqi (hE t htn).1 ?_
    refine j_iconst C 63 (v := nI 3) dX8_grow_63 rfl ?_
    refine j_icmp_ne_n C 64 165 (by omega) (by omega) dX8_grow_64 (by decide) (fun _ => ?_) (fun h => absurd h (by omega))
    refine j_aload_n C 165 5 dX8_grow_165 rfl rfl ?_
    refine j_get C 166 (ci := 8) hL rfl 0 (wm_o0 bd c Z L) 2 (by decide) f7 rfl (v := .ref (bd 1)) rfl dX8_grow_166 ?_
    refine j_iload_n C 169 6 dX8_grow_169 rfl rfl ?_
    refine j_iald C 170 1 0 (f := Z 1) (wm_a1 bd c Z L) rfl (by omega) (by decide) dX8_grow_170 ?_
    refine j_eqi (hE t htn).1 ?_
    refine j_iconst C 171 (v := nI 4) dX8_grow_171 rfl ?_
    refine j_icmp_ne_n C 172 237 (by omega) (by omega) dX8_grow_172 (by decide) (fun _ => ?_) (fun h => absurd h (by omega))
    refine j_aload_n C 237 5 dX8_grow_237 rfl rfl ?_
    refine j_get C 238 (ci := 8) hL rfl 0 (wm_o0 bd c Z L) 2 (by decide) f7 rfl (v := .ref (bd 1)) rfl dX8_grow_238 ?_
    refine j_iload_n C 241 6 dX8_grow_241 rfl rfl ?_
    refine j_iald C 242 1 0 (f := Z 1) (wm_a1 bd c Z L) rfl (by omega) (by decide) dX8_grow_242 ?_
    refine j_eqi (hE t htn).1 ?_
    refine j_bipush C 243 (v := nI 6) dX8_grow_243 rfl ?_
    refine j_icmp_eq_n C 245 267 (by omega) (by omega) dX8_grow_245 (by decide) (fun h => absurd h (by omega)) (fun _ => ?_)
    refine j_aload_n C 248 5 dX8_grow_248 rfl rfl ?_
    refine j_get C 249 (ci := 8) hL rfl 0 (wm_o0 bd c Z L) 2 (by decide) f7 rfl (v := .ref (bd 1)) rfl dX8_grow_249 ?_
    refine j_iload_n C 252 6 dX8_grow_252 rfl rfl ?_
    refine j_iald C 253 1 0 (f := Z 1) (wm_a1 bd c Z L) rfl (by omega) (by decide) dX8_grow_253 ?_
    refine j_eqi (hE t htn).1 ?_
    refine j_iconst C 254 (v := nI 5) dX8_grow_254 rfl ?_
    refine j_icmp_ne_n C 255 316 (by omega) (by omega) dX8_grow_255 (by decide) (fun _ => ?_) (fun h => absurd h (by omega))
    exact j_lv [2, 3, 4, 5, 6] rfl (j316 (false, 2 ^ g_sg τ t, 0) (by rw [g_Fk2 hk]) _ rfl)
  · have hlP := g_lfP hwf hr2 ht (by omega)
    have hrP := g_rtP hwf hr2 ht (by omega)
    cases hnl : g_nu S (g_lf τ t) with
    | false =>
      cases hnr : g_nu S (g_rt τ t) with
      | false =>
        refine j_aload_n C 0 0 dX8_grow_0 rfl rfl ?_
        refine j_get C 1 (ci := 8) hL rfl 0 (wm_o0 bd c Z L) 2 (by decide) f7 rfl (v := .ref (bd 1)) rfl dX8_grow_1 ?_
        refine j_iload_n C 4 1 dX8_grow_4 rfl rfl ?_
        refine j_iald C 5 1 0 (f := Z 1) (wm_a1 bd c Z L) rfl (by omega) (by decide) dX8_grow_5 ?_
        refine j_eqi (hE t htn).1 ?_
        refine j_if_ne_n C 6 13 (by omega) dX8_grow_6 (by decide) (fun _ => ?_) (fun h => absurd h (by omega))
        refine j_iconst C 13 (v := nI 0) dX8_grow_13 rfl ?_
        refine j_istore_n C 14 (lv' := [(2, .int (nI (0))), (0, .ref (bd 0)), (1, .int (nI (t)))]) dX8_grow_14 rfl (by rw [hn]; decide) rfl ?_
        refine j_aload_n C 15 1 dX8_grow_15 rfl rfl ?_
        refine j_get C 16 (ci := 8) hL rfl 0 (wm_o0 bd c Z L) 2 (by decide) f7 rfl (v := .ref (bd 1)) rfl dX8_grow_16 ?_
        refine j_iload_n C 19 2 dX8_grow_19 rfl rfl ?_
        refine j_iald C 20 1 0 (f := Z 1) (wm_a1 bd c Z L) rfl (by omega) (by decide) dX8_grow_20 ?_
        refine j_eqi (hE t htn).1 ?_
        refine j_iconst C 21 (v := nI 2) dX8_grow_21 rfl ?_
        refine j_icmp_ne_n C 22 36 (by omega) (by omega) dX8_grow_22 (by decide) (fun _ => ?_) (fun h => absurd h (by omega))
        refine j_iconst C 36 (v := nI 0) dX8_grow_36 rfl ?_
        refine j_istore_n C 37 (lv' := [(3, .int (nI (0))), (2, .int (nI (0))), (0, .ref (bd 0)), (1, .int (nI (t)))]) dX8_grow_37 rfl (by rw [hn]; decide) rfl ?_
        refine j_iconst C 38 (v := nI 0) dX8_grow_38 rfl ?_
        refine j_istore C 39 (lv' := [(4, .int (nI (0))), (3, .int (nI (0))), (2, .int (nI (0))), (0, .ref (bd 0)), (1, .int (nI (t)))]) dX8_grow_39 (by rw [hn]; decide) rfl ?_
        refine j_aload_n C 41 3 dX8_grow_41 rfl rfl ?_
        refine j_get C 42 (ci := 8) hL rfl 0 (wm_o0 bd c Z L) 4 (by decide) f16 rfl (v := .ref (bd 3)) rfl dX8_grow_42 ?_
        refine j_iload_n C 45 4 dX8_grow_45 rfl rfl ?_
        refine j_iald C 46 3 0 (f := Z 3) (wm_a3 bd c Z L) rfl (by omega) (by decide) dX8_grow_46 ?_
        refine j_eqi (g_EM_lf hE htn (by omega)) ?_
        refine j_istore C 47 (lv' := [(5, .int (nI (g_lf τ t))), (4, .int (nI (0))), (3, .int (nI (0))), (2, .int (nI (0))), (0, .ref (bd 0)), (1, .int (nI (t)))]) dX8_grow_47 (by rw [hn]; decide) rfl ?_
        refine j_aload_n C 49 4 dX8_grow_49 rfl rfl ?_
        refine j_get C 50 (ci := 8) hL rfl 0 (wm_o0 bd c Z L) 5 (by decide) f19 rfl (v := .ref (bd 4)) rfl dX8_grow_50 ?_
        refine j_iload_n C 53 5 dX8_grow_53 rfl rfl ?_
        refine j_iald C 54 4 0 (f := Z 4) (wm_a4 bd c Z L) rfl (by omega) (by decide) dX8_grow_54 ?_
        refine j_eqi (g_EM_rt hE htn (by omega)) ?_
        refine j_istore C 55 (lv' := [(6, .int (nI (g_rt τ t))), (5, .int (nI (g_lf τ t))), (4, .int (nI (0))), (3, .int (nI (0))), (2, .int (nI (0))), (0, .ref (bd 0)), (1, .int (nI (t)))]) dX8_grow_55 (by rw [hn]; decide) rfl ?_
        refine j_aload_n C 57 5 dX8_grow_57 rfl rfl ?_
        refine j_get C 58 (ci := 8) hL rfl 0 (wm_o0 bd c Z L) 2 (by decide) f7 rfl (v := .ref (bd 1)) rfl dX8_grow_58 ?_
        refine j_iload_n C 61 6 dX8_grow_61 rfl rfl ?_
        refine j_iald C 62 1 0 (f := Z 1) (wm_a1 bd c Z L) rfl (by omega) (by decide) dX8_grow_62 ?_
        refine j_eqi (hE t htn).1 ?_
        refine j_iconst C 63 (v := nI 3) dX8_grow_63 rfl ?_
        refine j_icmp_ne_n C 64 165 (by omega) (by omega) dX8_grow_64 (by decide) (fun h => absurd h (by omega)) (fun _ => ?_)
        refine j_aload_n C 67 5 dX8_grow_67 rfl rfl ?_
        refine j_get C 68 (ci := 8) hL rfl 0 (wm_o0 bd c Z L) 8 (by decide) f28 rfl (v := .ref (bd 7)) rfl dX8_grow_68 ?_
        refine j_iload C 71 1 dX8_grow_71 rfl ?_
        refine j_zald C 73 7 1 (f := Z 7) (wm_a7 bd c Z L) rfl (by omega) (by decide) dX8_grow_73 ?_
        refine j_eqi ((hY _ hlP.1).1.trans (by rw [hnl])) ?_
        refine j_if_eq_b C 74 (b := false) 91 dX8_grow_74 (by decide) (fun _ => ?_) (fun h => by cases h)
        refine j_iconst C 91 (v := nI 0) dX8_grow_91 rfl ?_
        refine j_istore_n C 92 (lv' := [(2, .int (nI (0))), (6, .int (nI (g_rt τ t))), (5, .int (nI (g_lf τ t))), (4, .int (nI (0))), (3, .int (nI (0))), (0, .ref (bd 0)), (1, .int (nI (t)))]) dX8_grow_92 rfl (by rw [hn]; decide) rfl ?_
        refine j_aload_n C 93 5 dX8_grow_93 rfl rfl ?_
        refine j_get C 94 (ci := 8) hL rfl 0 (wm_o0 bd c Z L) 9 (by decide) f32 rfl (v := .ref (bd 8)) rfl dX8_grow_94 ?_
        refine j_iload C 97 2 dX8_grow_97 rfl ?_
        refine j_iald C 99 8 0 (f := Z 8) (wm_a8 bd c Z L) rfl (by omega) (by decide) dX8_grow_99 ?_
        refine j_eqi (hY _ hlP.1).2.1 ?_
        refine j_aload_n C 100 5 dX8_grow_100 rfl rfl ?_
        refine j_get C 101 (ci := 8) hL rfl 0 (wm_o0 bd c Z L) 8 (by decide) f28 rfl (v := .ref (bd 7)) rfl dX8_grow_101 ?_
        refine j_iload C 104 2 dX8_grow_104 rfl ?_
        refine j_zald C 106 7 1 (f := Z 7) (wm_a7 bd c Z L) rfl (by omega) (by decide) dX8_grow_106 ?_
        refine j_eqi ((hY _ hlP.1).1.trans (by rw [hnl])) ?_
        refine j_if_eq_b C 107 (b := false) 120 dX8_grow_107 (by decide) (fun _ => ?_) (fun h => by cases h)
        refine j_iconst C 120 (v := nI 0) dX8_grow_120 rfl ?_
        refine j_ior_e C 121 (z := nI ((g_fi S (g_lf τ t)) ||| 0)) dX8_grow_121 (e_or _ _) ?_
        refine j_istore_n C 122 (lv' := [(3, .int (nI ((g_fi S (g_lf τ t)) ||| 0))), (2, .int (nI (0))), (6, .int (nI (g_rt τ t))), (5, .int (nI (g_lf τ t))), (4, .int (nI (0))), (0, .ref (bd 0)), (1, .int (nI (t)))]) dX8_grow_122 rfl (by rw [hn]; decide) rfl ?_
        refine j_aload_n C 123 5 dX8_grow_123 rfl rfl ?_
        refine j_get C 124 (ci := 8) hL rfl 0 (wm_o0 bd c Z L) 10 (by decide) f35 rfl (v := .ref (bd 9)) rfl dX8_grow_124 ?_
        refine j_iload C 127 2 dX8_grow_127 rfl ?_
        refine j_iald C 129 9 0 (f := Z 9) (wm_a9 bd c Z L) rfl (by omega) (by decide) dX8_grow_129 ?_
        refine j_eqi (hY _ hrP.1).2.2.1 ?_
        refine j_aload_n C 130 5 dX8_grow_130 rfl rfl ?_
        refine j_get C 131 (ci := 8) hL rfl 0 (wm_o0 bd c Z L) 8 (by decide) f28 rfl (v := .ref (bd 7)) rfl dX8_grow_131 ?_
        refine j_iload C 134 2 dX8_grow_134 rfl ?_
        refine j_zald C 136 7 1 (f := Z 7) (wm_a7 bd c Z L) rfl (by omega) (by decide) dX8_grow_136 ?_
        refine j_eqi ((hY _ hrP.1).1.trans (by rw [hnr])) ?_
        refine j_if_eq_b C 137 (b := false) 158 dX8_grow_137 (by decide) (fun _ => ?_) (fun h => by cases h)
        refine j_iconst C 158 (v := nI 0) dX8_grow_158 rfl ?_
        refine j_ior_e C 159 (z := nI ((g_af S (g_rt τ t)) ||| 0)) dX8_grow_159 (e_or _ _) ?_
        refine j_istore C 160 (lv' := [(4, .int (nI ((g_af S (g_rt τ t)) ||| 0))), (3, .int (nI ((g_fi S (g_lf τ t)) ||| 0))), (2, .int (nI (0))), (6, .int (nI (g_rt τ t))), (5, .int (nI (g_lf τ t))), (0, .ref (bd 0)), (1, .int (nI (t)))]) dX8_grow_160 (by rw [hn]; decide) rfl ?_
        refine j_goto C 162 316 dX8_grow_162 (by decide) ?_
        exact j_lv [0, 1, 2, 5, 6] rfl (j316 (false, (g_fi S (g_lf τ t)) ||| 0, (g_af S (g_rt τ t)) ||| 0) (by rw [g_Fk3 hk, hnl, hnr]; rfl) _ rfl)
      | true =>
        refine j_aload_n C 0 0 dX8_grow_0 rfl rfl ?_
        refine j_get C 1 (ci := 8) hL rfl 0 (wm_o0 bd c Z L) 2 (by decide) f7 rfl (v := .ref (bd 1)) rfl dX8_grow_1 ?_
        refine j_iload_n C 4 1 dX8_grow_4 rfl rfl ?_
        refine j_iald C 5 1 0 (f := Z 1) (wm_a1 bd c Z L) rfl (by omega) (by decide) dX8_grow_5 ?_
        refine j_eqi (hE t htn).1 ?_
        refine j_if_ne_n C 6 13 (by omega) dX8_grow_6 (by decide) (fun _ => ?_) (fun h => absurd h (by omega))
        refine j_iconst C 13 (v := nI 0) dX8_grow_13 rfl ?_
        refine j_istore_n C 14 (lv' := [(2, .int (nI (0))), (0, .ref (bd 0)), (1, .int (nI (t)))]) dX8_grow_14 rfl (by rw [hn]; decide) rfl ?_
        refine j_aload_n C 15 1 dX8_grow_15 rfl rfl ?_
        refine j_get C 16 (ci := 8) hL rfl 0 (wm_o0 bd c Z L) 2 (by decide) f7 rfl (v := .ref (bd 1)) rfl dX8_grow_16 ?_
        refine j_iload_n C 19 2 dX8_grow_19 rfl rfl ?_
        refine j_iald C 20 1 0 (f := Z 1) (wm_a1 bd c Z L) rfl (by omega) (by decide) dX8_grow_20 ?_
        refine j_eqi (hE t htn).1 ?_
        refine j_iconst C 21 (v := nI 2) dX8_grow_21 rfl ?_
        refine j_icmp_ne_n C 22 36 (by omega) (by omega) dX8_grow_22 (by decide) (fun _ => ?_) (fun h => absurd h (by omega))
        refine j_iconst C 36 (v := nI 0) dX8_grow_36 rfl ?_
        refine j_istore_n C 37 (lv' := [(3, .int (nI (0))), (2, .int (nI (0))), (0, .ref (bd 0)), (1, .int (nI (t)))]) dX8_grow_37 rfl (by rw [hn]; decide) rfl ?_
        refine j_iconst C 38 (v := nI 0) dX8_grow_38 rfl ?_
        refine j_istore C 39 (lv' := [(4, .int (nI (0))), (3, .int (nI (0))), (2, .int (nI (0))), (0, .ref (bd 0)), (1, .int (nI (t)))]) dX8_grow_39 (by rw [hn]; decide) rfl ?_
        refine j_aload_n C 41 3 dX8_grow_41 rfl rfl ?_
        refine j_get C 42 (ci := 8) hL rfl 0 (wm_o0 bd c Z L) 4 (by decide) f16 rfl (v := .ref (bd 3)) rfl dX8_grow_42 ?_
        refine j_iload_n C 45 4 dX8_grow_45 rfl rfl ?_
        refine j_iald C 46 3 0 (f := Z 3) (wm_a3 bd c Z L) rfl (by omega) (by decide) dX8_grow_46 ?_
        refine j_eqi (g_EM_lf hE htn (by omega)) ?_
        refine j_istore C 47 (lv' := [(5, .int (nI (g_lf τ t))), (4, .int (nI (0))), (3, .int (nI (0))), (2, .int (nI (0))), (0, .ref (bd 0)), (1, .int (nI (t)))]) dX8_grow_47 (by rw [hn]; decide) rfl ?_
        refine j_aload_n C 49 4 dX8_grow_49 rfl rfl ?_
        refine j_get C 50 (ci := 8) hL rfl 0 (wm_o0 bd c Z L) 5 (by decide) f19 rfl (v := .ref (bd 4)) rfl dX8_grow_50 ?_
        refine j_iload_n C 53 5 dX8_grow_53 rfl rfl ?_
        refine j_iald C 54 4 0 (f := Z 4) (wm_a4 bd c Z L) rfl (by omega) (by decide) dX8_grow_54 ?_
        refine j_eqi (g_EM_rt hE htn (by omega)) ?_
        refine j_istore C 55 (lv' := [(6, .int (nI (g_rt τ t))), (5, .int (nI (g_lf τ t))), (4, .int (nI (0))), (3, .int (nI (0))), (2, .int (nI (0))), (0, .ref (bd 0)), (1, .int (nI (t)))]) dX8_grow_55 (by rw [hn]; decide) rfl ?_
        refine j_aload_n C 57 5 dX8_grow_57 rfl rfl ?_
        refine j_get C 58 (ci := 8) hL rfl 0 (wm_o0 bd c Z L) 2 (by decide) f7 rfl (v := .ref (bd 1)) rfl dX8_grow_58 ?_
        refine j_iload_n C 61 6 dX8_grow_61 rfl rfl ?_
        refine j_iald C 62 1 0 (f := Z 1) (wm_a1 bd c Z L) rfl (by omega) (by decide) dX8_grow_62 ?_
        refine j_eqi (hE t htn).1 ?_
        refine j_iconst C 63 (v := nI 3) dX8_grow_63 rfl ?_
        refine j_icmp_ne_n C 64 165 (by omega) (by omega) dX8_grow_64 (by decide) (fun h => absurd h (by omega)) (fun _ => ?_)
        refine j_aload_n C 67 5 dX8_grow_67 rfl rfl ?_
        refine j_get C 68 (ci := 8) hL rfl 0 (wm_o0 bd c Z L) 8 (by decide) f28 rfl (v := .ref (bd 7)) rfl dX8_grow_68 ?_
        refine j_iload C 71 1 dX8_grow_71 rfl ?_
        refine j_zald C 73 7 1 (f := Z 7) (wm_a7 bd c Z L) rfl (by omega) (by decide) dX8_grow_73 ?_
        refine j_eqi ((hY _ hlP.1).1.trans (by rw [hnl])) ?_
        refine j_if_eq_b C 74 (b := false) 91 dX8_grow_74 (by decide) (fun _ => ?_) (fun h => by cases h)
        refine j_iconst C 91 (v := nI 0) dX8_grow_91 rfl ?_
        refine j_istore_n C 92 (lv' := [(2, .int (nI (0))), (6, .int (nI (g_rt τ t))), (5, .int (nI (g_lf τ t))), (4, .int (nI (0))), (3, .int (nI (0))), (0, .ref (bd 0)), (1, .int (nI (t)))]) dX8_grow_92 rfl (by rw [hn]; decide) rfl ?_
        refine j_aload_n C 93 5 dX8_grow_93 rfl rfl ?_
        refine j_get C 94 (ci := 8) hL rfl 0 (wm_o0 bd c Z L) 9 (by decide) f32 rfl (v := .ref (bd 8)) rfl dX8_grow_94 ?_
        refine j_iload C 97 2 dX8_grow_97 rfl ?_
        refine j_iald C 99 8 0 (f := Z 8) (wm_a8 bd c Z L) rfl (by omega) (by decide) dX8_grow_99 ?_
        refine j_eqi (hY _ hlP.1).2.1 ?_
        refine j_aload_n C 100 5 dX8_grow_100 rfl rfl ?_
        refine j_get C 101 (ci := 8) hL rfl 0 (wm_o0 bd c Z L) 8 (by decide) f28 rfl (v := .ref (bd 7)) rfl dX8_grow_101 ?_
        refine j_iload C 104 2 dX8_grow_104 rfl ?_
        refine j_zald C 106 7 1 (f := Z 7) (wm_a7 bd c Z L) rfl (by omega) (by decide) dX8_grow_106 ?_
        refine j_eqi ((hY _ hlP.1).1.trans (by rw [hnl])) ?_
        refine j_if_eq_b C 107 (b := false) 120 dX8_grow_107 (by decide) (fun _ => ?_) (fun h => by cases h)
        refine j_iconst C 120 (v := nI 0) dX8_grow_120 rfl ?_
        refine j_ior_e C 121 (z := nI ((g_fi S (g_lf τ t)) ||| 0)) dX8_grow_121 (e_or _ _) ?_
        refine j_istore_n C 122 (lv' := [(3, .int (nI ((g_fi S (g_lf τ t)) ||| 0))), (2, .int (nI (0))), (6, .int (nI (g_rt τ t))), (5, .int (nI (g_lf τ t))), (4, .int (nI (0))), (0, .ref (bd 0)), (1, .int (nI (t)))]) dX8_grow_122 rfl (by rw [hn]; decide) rfl ?_
        refine j_aload_n C 123 5 dX8_grow_123 rfl rfl ?_
        refine j_get C 124 (ci := 8) hL rfl 0 (wm_o0 bd c Z L) 10 (by decide) f35 rfl (v := .ref (bd 9)) rfl dX8_grow_124 ?_
        refine j_iload C 127 2 dX8_grow_127 rfl ?_
        refine j_iald C 129 9 0 (f := Z 9) (wm_a9 bd c Z L) rfl (by omega) (by decide) dX8_grow_129 ?_
        refine j_eqi (hY _ hrP.1).2.2.1 ?_
        refine j_aload_n C 130 5 dX8_grow_130 rfl rfl ?_
        refine j_get C 131 (ci := 8) hL rfl 0 (wm_o0 bd c Z L) 8 (by decide) f28 rfl (v := .ref (bd 7)) rfl dX8_grow_131 ?_
        refine j_iload C 134 2 dX8_grow_134 rfl ?_
        refine j_zald C 136 7 1 (f := Z 7) (wm_a7 bd c Z L) rfl (by omega) (by decide) dX8_grow_136 ?_
        refine j_eqi ((hY _ hrP.1).1.trans (by rw [hnr])) ?_
        refine j_if_eq_b C 137 (b := true) 158 dX8_grow_137 (by decide) (fun h => by cases h) (fun _ => ?_)
        refine j_aload_n C 140 5 dX8_grow_140 rfl rfl ?_
        refine j_get C 141 (ci := 8) hL rfl 0 (wm_o0 bd c Z L) 9 (by decide) f32 rfl (v := .ref (bd 8)) rfl dX8_grow_141 ?_
        refine j_iload C 144 2 dX8_grow_144 rfl ?_
        refine j_iald C 146 8 0 (f := Z 8) (wm_a8 bd c Z L) rfl (by omega) (by decide) dX8_grow_146 ?_
        refine j_eqi (hY _ hrP.1).2.1 ?_
        refine j_aload_n C 147 5 dX8_grow_147 rfl rfl ?_
        refine j_get C 148 (ci := 8) hL rfl 0 (wm_o0 bd c Z L) 10 (by decide) f35 rfl (v := .ref (bd 9)) rfl dX8_grow_148 ?_
        refine j_iload C 151 3 dX8_grow_151 rfl ?_
        refine j_iald C 153 9 0 (f := Z 9) (wm_a9 bd c Z L) rfl (by omega) (by decide) dX8_grow_153 ?_
        refine j_eqi (hY _ hlP.1).2.2.1 ?_
        refine j_ior_e C 154 (z := nI ((g_fi S (g_rt τ t)) ||| (g_af S (g_lf τ t)))) dX8_grow_154 (e_or _ _) ?_
        refine j_goto C 155 159 dX8_grow_155 (by decide) ?_
        refine j_ior_e C 159 (z := nI ((g_af S (g_rt τ t)) ||| ((g_fi S (g_rt τ t)) ||| (g_af S (g_lf τ t))))) dX8_grow_159 (e_or _ _) ?_
        refine j_istore C 160 (lv' := [(4, .int (nI ((g_af S (g_rt τ t)) ||| ((g_fi S (g_rt τ t)) ||| (g_af S (g_lf τ t)))))), (3, .int (nI ((g_fi S (g_lf τ t)) ||| 0))), (2, .int (nI (0))), (6, .int (nI (g_rt τ t))), (5, .int (nI (g_lf τ t))), (0, .ref (bd 0)), (1, .int (nI (t)))]) dX8_grow_160 (by rw [hn]; decide) rfl ?_
        refine j_goto C 162 316 dX8_grow_162 (by decide) ?_
        exact j_lv [0, 1, 2, 5, 6] rfl (j316 (false, (g_fi S (g_lf τ t)) ||| 0, (g_af S (g_rt τ t)) ||| ((g_fi S (g_rt τ t)) ||| (g_af S (g_lf τ t)))) (by rw [g_Fk3 hk, hnl, hnr]; rfl) _ rfl)
    | true =>
      cases hnr : g_nu S (g_rt τ t) with
      | false =>
        refine j_aload_n C 0 0 dX8_grow_0 rfl rfl ?_
        refine j_get C 1 (ci := 8) hL rfl 0 (wm_o0 bd c Z L) 2 (by decide) f7 rfl (v := .ref (bd 1)) rfl dX8_grow_1 ?_
        refine j_iload_n C 4 1 dX8_grow_4 rfl rfl ?_
        refine j_iald C 5 1 0 (f := Z 1) (wm_a1 bd c Z L) rfl (by omega) (by decide) dX8_grow_5 ?_
        refine j_eqi (hE t htn).1 ?_
        refine j_if_ne_n C 6 13 (by omega) dX8_grow_6 (by decide) (fun _ => ?_) (fun h => absurd h (by omega))
        refine j_iconst C 13 (v := nI 0) dX8_grow_13 rfl ?_
        refine j_istore_n C 14 (lv' := [(2, .int (nI (0))), (0, .ref (bd 0)), (1, .int (nI (t)))]) dX8_grow_14 rfl (by rw [hn]; decide) rfl ?_
        refine j_aload_n C 15 1 dX8_grow_15 rfl rfl ?_
        refine j_get C 16 (ci := 8) hL rfl 0 (wm_o0 bd c Z L) 2 (by decide) f7 rfl (v := .ref (bd 1)) rfl dX8_grow_16 ?_
        refine j_iload_n C 19 2 dX8_grow_19 rfl rfl ?_
        refine j_iald C 20 1 0 (f := Z 1) (wm_a1 bd c Z L) rfl (by omega) (by decide) dX8_grow_20 ?_
        refine j_eqi (hE t htn).1 ?_
        refine j_iconst C 21 (v := nI 2) dX8_grow_21 rfl ?_
        refine j_icmp_ne_n C 22 36 (by omega) (by omega) dX8_grow_22 (by decide) (fun _ => ?_) (fun h => absurd h (by omega))
        refine j_iconst C 36 (v := nI 0) dX8_grow_36 rfl ?_
        refine j_istore_n C 37 (lv' := [(3, .int (nI (0))), (2, .int (nI (0))), (0, .ref (bd 0)), (1, .int (nI (t)))]) dX8_grow_37 rfl (by rw [hn]; decide) rfl ?_
        refine j_iconst C 38 (v := nI 0) dX8_grow_38 rfl ?_
        refine j_istore C 39 (lv' := [(4, .int (nI (0))), (3, .int (nI (0))), (2, .int (nI (0))), (0, .ref (bd 0)), (1, .int (nI (t)))]) dX8_grow_39 (by rw [hn]; decide) rfl ?_
        refine j_aload_n C 41 3 dX8_grow_41 rfl rfl ?_
        refine j_get C 42 (ci := 8) hL rfl 0 (wm_o0 bd c Z L) 4 (by decide) f16 rfl (v := .ref (bd 3)) rfl dX8_grow_42 ?_
        refine j_iload_n C 45 4 dX8_grow_45 rfl rfl ?_
        refine j_iald C 46 3 0 (f := Z 3) (wm_a3 bd c Z L) rfl (by omega) (by decide) dX8_grow_46 ?_
        refine j_eqi (g_EM_lf hE htn (by omega)) ?_
        refine j_istore C 47 (lv' := [(5, .int (nI (g_lf τ t))), (4, .int (nI (0))), (3, .int (nI (0))), (2, .int (nI (0))), (0, .ref (bd 0)), (1, .int (nI (t)))]) dX8_grow_47 (by rw [hn]; decide) rfl ?_
        refine j_aload_n C 49 4 dX8_grow_49 rfl rfl ?_
        refine j_get C 50 (ci := 8) hL rfl 0 (wm_o0 bd c Z L) 5 (by decide) f19 rfl (v := .ref (bd 4)) rfl dX8_grow_50 ?_
        refine j_iload_n C 53 5 dX8_grow_53 rfl rfl ?_
        refine j_iald C 54 4 0 (f := Z 4) (wm_a4 bd c Z L) rfl (by omega) (by decide) dX8_grow_54 ?_
        refine j_eqi (g_EM_rt hE htn (by omega)) ?_
        refine j_istore C 55 (lv' := [(6, .int (nI (g_rt τ t))), (5, .int (nI (g_lf τ t))), (4, .int (nI (0))), (3, .int (nI (0))), (2, .int (nI (0))), (0, .ref (bd 0)), (1, .int (nI (t)))]) dX8_grow_55 (by rw [hn]; decide) rfl ?_
        refine j_aload_n C 57 5 dX8_grow_57 rfl rfl ?_
        refine j_get C 58 (ci := 8) hL rfl 0 (wm_o0 bd c Z L) 2 (by decide) f7 rfl (v := .ref (bd 1)) rfl dX8_grow_58 ?_
        refine j_iload_n C 61 6 dX8_grow_61 rfl rfl ?_
        refine j_iald C 62 1 0 (f := Z 1) (wm_a1 bd c Z L) rfl (by omega) (by decide) dX8_grow_62 ?_
        refine j_eqi (hE t htn).1 ?_
        refine j_iconst C 63 (v := nI 3) dX8_grow_63 rfl ?_
        refine j_icmp_ne_n C 64 165 (by omega) (by omega) dX8_grow_64 (by decide) (fun h => absurd h (by omega)) (fun _ => ?_)
        refine j_aload_n C 67 5 dX8_grow_67 rfl rfl ?_
        refine j_get C 68 (ci := 8) hL rfl 0 (wm_o0 bd c Z L) 8 (by decide) f28 rfl (v := .ref (bd 7)) rfl dX8_grow_68 ?_
        refine j_iload C 71 1 dX8_grow_71 rfl ?_
        refine j_zald C 73 7 1 (f := Z 7) (wm_a7 bd c Z L) rfl (by omega) (by decide) dX8_grow_73 ?_
        refine j_eqi ((hY _ hlP.1).1.trans (by rw [hnl])) ?_
        refine j_if_eq_b C 74 (b := true) 91 dX8_grow_74 (by decide) (fun h => by cases h) (fun _ => ?_)
        refine j_aload_n C 77 5 dX8_grow_77 rfl rfl ?_
        refine j_get C 78 (ci := 8) hL rfl 0 (wm_o0 bd c Z L) 8 (by decide) f28 rfl (v := .ref (bd 7)) rfl dX8_grow_78 ?_
        refine j_iload C 81 0 dX8_grow_81 rfl ?_
        refine j_zald C 83 7 1 (f := Z 7) (wm_a7 bd c Z L) rfl (by omega) (by decide) dX8_grow_83 ?_
        refine j_eqi ((hY _ hrP.1).1.trans (by rw [hnr])) ?_
        refine j_if_eq_b C 84 (b := false) 91 dX8_grow_84 (by decide) (fun _ => ?_) (fun h => by cases h)
        refine j_iconst C 91 (v := nI 0) dX8_grow_91 rfl ?_
        refine j_istore_n C 92 (lv' := [(2, .int (nI (0))), (6, .int (nI (g_rt τ t))), (5, .int (nI (g_lf τ t))), (4, .int (nI (0))), (3, .int (nI (0))), (0, .ref (bd 0)), (1, .int (nI (t)))]) dX8_grow_92 rfl (by rw [hn]; decide) rfl ?_
        refine j_aload_n C 93 5 dX8_grow_93 rfl rfl ?_
        refine j_get C 94 (ci := 8) hL rfl 0 (wm_o0 bd c Z L) 9 (by decide) f32 rfl (v := .ref (bd 8)) rfl dX8_grow_94 ?_
        refine j_iload C 97 2 dX8_grow_97 rfl ?_
        refine j_iald C 99 8 0 (f := Z 8) (wm_a8 bd c Z L) rfl (by omega) (by decide) dX8_grow_99 ?_
        refine j_eqi (hY _ hlP.1).2.1 ?_
        refine j_aload_n C 100 5 dX8_grow_100 rfl rfl ?_
        refine j_get C 101 (ci := 8) hL rfl 0 (wm_o0 bd c Z L) 8 (by decide) f28 rfl (v := .ref (bd 7)) rfl dX8_grow_101 ?_
        refine j_iload C 104 2 dX8_grow_104 rfl ?_
        refine j_zald C 106 7 1 (f := Z 7) (wm_a7 bd c Z L) rfl (by omega) (by decide) dX8_grow_106 ?_
        refine j_eqi ((hY _ hlP.1).1.trans (by rw [hnl])) ?_
        refine j_if_eq_b C 107 (b := true) 120 dX8_grow_107 (by decide) (fun h => by cases h) (fun _ => ?_)
        refine j_aload_n C 110 5 dX8_grow_110 rfl rfl ?_
        refine j_get C 111 (ci := 8) hL rfl 0 (wm_o0 bd c Z L) 9 (by decide) f32 rfl (v := .ref (bd 8)) rfl dX8_grow_111 ?_
        refine j_iload C 114 1 dX8_grow_114 rfl ?_
        refine j_iald C 116 8 0 (f := Z 8) (wm_a8 bd c Z L) rfl (by omega) (by decide) dX8_grow_116 ?_
        refine j_eqi (hY _ hrP.1).2.1 ?_
        refine j_goto C 117 121 dX8_grow_117 (by decide) ?_
        refine j_ior_e C 121 (z := nI ((g_fi S (g_lf τ t)) ||| (g_fi S (g_rt τ t)))) dX8_grow_121 (e_or _ _) ?_
        refine j_istore_n C 122 (lv' := [(3, .int (nI ((g_fi S (g_lf τ t)) ||| (g_fi S (g_rt τ t))))), (2, .int (nI (0))), (6, .int (nI (g_rt τ t))), (5, .int (nI (g_lf τ t))), (4, .int (nI (0))), (0, .ref (bd 0)), (1, .int (nI (t)))]) dX8_grow_122 rfl (by rw [hn]; decide) rfl ?_
        refine j_aload_n C 123 5 dX8_grow_123 rfl rfl ?_
        refine j_get C 124 (ci := 8) hL rfl 0 (wm_o0 bd c Z L) 10 (by decide) f35 rfl (v := .ref (bd 9)) rfl dX8_grow_124 ?_
        refine j_iload C 127 2 dX8_grow_127 rfl ?_
        refine j_iald C 129 9 0 (f := Z 9) (wm_a9 bd c Z L) rfl (by omega) (by decide) dX8_grow_129 ?_
        refine j_eqi (hY _ hrP.1).2.2.1 ?_
        refine j_aload_n C 130 5 dX8_grow_130 rfl rfl ?_
        refine j_get C 131 (ci := 8) hL rfl 0 (wm_o0 bd c Z L) 8 (by decide) f28 rfl (v := .ref (bd 7)) rfl dX8_grow_131 ?_
        refine j_iload C 134 2 dX8_grow_134 rfl ?_
        refine j_zald C 136 7 1 (f := Z 7) (wm_a7 bd c Z L) rfl (by omega) (by decide) dX8_grow_136 ?_
        refine j_eqi ((hY _ hrP.1).1.trans (by rw [hnr])) ?_
        refine j_if_eq_b C 137 (b := false) 158 dX8_grow_137 (by decide) (fun _ => ?_) (fun h => by cases h)
        refine j_iconst C 158 (v := nI 0) dX8_grow_158 rfl ?_
        refine j_ior_e C 159 (z := nI ((g_af S (g_rt τ t)) ||| 0)) dX8_grow_159 (e_or _ _) ?_
        refine j_istore C 160 (lv' := [(4, .int (nI ((g_af S (g_rt τ t)) ||| 0))), (3, .int (nI ((g_fi S (g_lf τ t)) ||| (g_fi S (g_rt τ t))))), (2, .int (nI (0))), (6, .int (nI (g_rt τ t))), (5, .int (nI (g_lf τ t))), (0, .ref (bd 0)), (1, .int (nI (t)))]) dX8_grow_160 (by rw [hn]; decide) rfl ?_
        refine j_goto C 162 316 dX8_grow_162 (by decide) ?_
        exact j_lv [0, 1, 2, 5, 6] rfl (j316 (false, (g_fi S (g_lf τ t)) ||| (g_fi S (g_rt τ t)), (g_af S (g_rt τ t)) ||| 0) (by rw [g_Fk3 hk, hnl, hnr]; rfl) _ rfl)
      | true =>
        refine j_aload_n C 0 0 dX8_grow_0 rfl rfl ?_
        refine j_get C 1 (ci := 8) hL rfl 0 (wm_o0 bd c Z L) 2 (by decide) f7 rfl (v := .ref (bd 1)) rfl dX8_grow_1 ?_
        refine j_iload_n C 4 1 dX8_grow_4 rfl rfl ?_
        refine j_iald C 5 1 0 (f := Z 1) (wm_a1 bd c Z L) rfl (by omega) (by decide) dX8_grow_5 ?_
        refine j_eqi (hE t htn).1 ?_
        refine j_if_ne_n C 6 13 (by omega) dX8_grow_6 (by decide) (fun _ => ?_) (fun h => absurd h (by omega))
        refine j_iconst C 13 (v := nI 0) dX8_grow_13 rfl ?_
        refine j_istore_n C 14 (lv' := [(2, .int (nI (0))), (0, .ref (bd 0)), (1, .int (nI (t)))]) dX8_grow_14 rfl (by rw [hn]; decide) rfl ?_
        refine j_aload_n C 15 1 dX8_grow_15 rfl rfl ?_
        refine j_get C 16 (ci := 8) hL rfl 0 (wm_o0 bd c Z L) 2 (by decide) f7 rfl (v := .ref (bd 1)) rfl dX8_grow_16 ?_
        refine j_iload_n C 19 2 dX8_grow_19 rfl rfl ?_
        refine j_iald C 20 1 0 (f := Z 1) (wm_a1 bd c Z L) rfl (by omega) (by decide) dX8_grow_20 ?_
        refine j_eqi (hE t htn).1 ?_
        refine j_iconst C 21 (v := nI 2) dX8_grow_21 rfl ?_
        refine j_icmp_ne_n C 22 36 (by omega) (by omega) dX8_grow_22 (by decide) (fun _ => ?_) (fun h => absurd h (by omega))
        refine j_iconst C 36 (v := nI 0) dX8_grow_36 rfl ?_
        refine j_istore_n C 37 (lv' := [(3, .int (nI (0))), (2, .int (nI (0))), (0, .ref (bd 0)), (1, .int (nI (t)))]) dX8_grow_37 rfl (by rw [hn]; decide) rfl ?_
        refine j_iconst C 38 (v := nI 0) dX8_grow_38 rfl ?_
        refine j_istore C 39 (lv' := [(4, .int (nI (0))), (3, .int (nI (0))), (2, .int (nI (0))), (0, .ref (bd 0)), (1, .int (nI (t)))]) dX8_grow_39 (by rw [hn]; decide) rfl ?_
        refine j_aload_n C 41 3 dX8_grow_41 rfl rfl ?_
        refine j_get C 42 (ci := 8) hL rfl 0 (wm_o0 bd c Z L) 4 (by decide) f16 rfl (v := .ref (bd 3)) rfl dX8_grow_42 ?_
        refine j_iload_n C 45 4 dX8_grow_45 rfl rfl ?_
        refine j_iald C 46 3 0 (f := Z 3) (wm_a3 bd c Z L) rfl (by omega) (by decide) dX8_grow_46 ?_
        refine j_eqi (g_EM_lf hE htn (by omega)) ?_
        refine j_istore C 47 (lv' := [(5, .int (nI (g_lf τ t))), (4, .int (nI (0))), (3, .int (nI (0))), (2, .int (nI (0))), (0, .ref (bd 0)), (1, .int (nI (t)))]) dX8_grow_47 (by rw [hn]; decide) rfl ?_
        refine j_aload_n C 49 4 dX8_grow_49 rfl rfl ?_
        refine j_get C 50 (ci := 8) hL rfl 0 (wm_o0 bd c Z L) 5 (by decide) f19 rfl (v := .ref (bd 4)) rfl dX8_grow_50 ?_
        refine j_iload_n C 53 5 dX8_grow_53 rfl rfl ?_
        refine j_iald C 54 4 0 (f := Z 4) (wm_a4 bd c Z L) rfl (by omega) (by decide) dX8_grow_54 ?_
        refine j_eqi (g_EM_rt hE htn (by omega)) ?_
        refine j_istore C 55 (lv' := [(6, .int (nI (g_rt τ t))), (5, .int (nI (g_lf τ t))), (4, .int (nI (0))), (3, .int (nI (0))), (2, .int (nI (0))), (0, .ref (bd 0)), (1, .int (nI (t)))]) dX8_grow_55 (by rw [hn]; decide) rfl ?_
        refine j_aload_n C 57 5 dX8_grow_57 rfl rfl ?_
        refine j_get C 58 (ci := 8) hL rfl 0 (wm_o0 bd c Z L) 2 (by decide) f7 rfl (v := .ref (bd 1)) rfl dX8_grow_58 ?_
        refine j_iload_n C 61 6 dX8_grow_61 rfl rfl ?_
        refine j_iald C 62 1 0 (f := Z 1) (wm_a1 bd c Z L) rfl (by omega) (by decide) dX8_grow_62 ?_
        refine j_eqi (hE t htn).1 ?_
        refine j_iconst C 63 (v := nI 3) dX8_grow_63 rfl ?_
        refine j_icmp_ne_n C 64 165 (by omega) (by omega) dX8_grow_64 (by decide) (fun h => absurd h (by omega)) (fun _ => ?_)
        refine j_aload_n C 67 5 dX8_grow_67 rfl rfl ?_
        refine j_get C 68 (ci := 8) hL rfl 0 (wm_o0 bd c Z L) 8 (by decide) f28 rfl (v := .ref (bd 7)) rfl dX8_grow_68 ?_
        refine j_iload C 71 1 dX8_grow_71 rfl ?_
        refine j_zald C 73 7 1 (f := Z 7) (wm_a7 bd c Z L) rfl (by omega) (by decide) dX8_grow_73 ?_
        refine j_eqi ((hY _ hlP.1).1.trans (by rw [hnl])) ?_
        refine j_if_eq_b C 74 (b := true) 91 dX8_grow_74 (by decide) (fun h => by cases h) (fun _ => ?_)
        refine j_aload_n C 77 5 dX8_grow_77 rfl rfl ?_
        refine j_get C 78 (ci := 8) hL rfl 0 (wm_o0 bd c Z L) 8 (by decide) f28 rfl (v := .ref (bd 7)) rfl dX8_grow_78 ?_
        refine j_iload C 81 0 dX8_grow_81 rfl ?_
        refine j_zald C 83 7 1 (f := Z 7) (wm_a7 bd c Z L) rfl (by omega) (by decide) dX8_grow_83 ?_
        refine j_eqi ((hY _ hrP.1).1.trans (by rw [hnr])) ?_
        refine j_if_eq_b C 84 (b := true) 91 dX8_grow_84 (by decide) (fun h => by cases h) (fun _ => ?_)
        refine j_iconst C 87 (v := nI 1) dX8_grow_87 rfl ?_
        refine j_goto C 88 92 dX8_grow_88 (by decide) ?_
        refine j_istore_n C 92 (lv' := [(2, .int (nI (1))), (6, .int (nI (g_rt τ t))), (5, .int (nI (g_lf τ t))), (4, .int (nI (0))), (3, .int (nI (0))), (0, .ref (bd 0)), (1, .int (nI (t)))]) dX8_grow_92 rfl (by rw [hn]; decide) rfl ?_
        refine j_aload_n C 93 5 dX8_grow_93 rfl rfl ?_
        refine j_get C 94 (ci := 8) hL rfl 0 (wm_o0 bd c Z L) 9 (by decide) f32 rfl (v := .ref (bd 8)) rfl dX8_grow_94 ?_
        refine j_iload C 97 2 dX8_grow_97 rfl ?_
        refine j_iald C 99 8 0 (f := Z 8) (wm_a8 bd c Z L) rfl (by omega) (by decide) dX8_grow_99 ?_
        refine j_eqi (hY _ hlP.1).2.1 ?_
        refine j_aload_n C 100 5 dX8_grow_100 rfl rfl ?_
        refine j_get C 101 (ci := 8) hL rfl 0 (wm_o0 bd c Z L) 8 (by decide) f28 rfl (v := .ref (bd 7)) rfl dX8_grow_101 ?_
        refine j_iload C 104 2 dX8_grow_104 rfl ?_
        refine j_zald C 106 7 1 (f := Z 7) (wm_a7 bd c Z L) rfl (by omega) (by decide) dX8_grow_106 ?_
        refine j_eqi ((hY _ hlP.1).1.trans (by rw [hnl])) ?_
        refine j_if_eq_b C 107 (b := true) 120 dX8_grow_107 (by decide) (fun h => by cases h) (fun _ => ?_)
        refine j_aload_n C 110 5 dX8_grow_110 rfl rfl ?_
        refine j_get C 111 (ci := 8) hL rfl 0 (wm_o0 bd c Z L) 9 (by decide) f32 rfl (v := .ref (bd 8)) rfl dX8_grow_111 ?_
        refine j_iload C 114 1 dX8_grow_114 rfl ?_
        refine j_iald C 116 8 0 (f := Z 8) (wm_a8 bd c Z L) rfl (by omega) (by decide) dX8_grow_116 ?_
        refine j_eqi (hY _ hrP.1).2.1 ?_
        refine j_goto C 117 121 dX8_grow_117 (by decide) ?_
        refine j_ior_e C 121 (z := nI ((g_fi S (g_lf τ t)) ||| (g_fi S (g_rt τ t)))) dX8_grow_121 (e_or _ _) ?_
        refine j_istore_n C 122 (lv' := [(3, .int (nI ((g_fi S (g_lf τ t)) ||| (g_fi S (g_rt τ t))))), (2, .int (nI (1))), (6, .int (nI (g_rt τ t))), (5, .int (nI (g_lf τ t))), (4, .int (nI (0))), (0, .ref (bd 0)), (1, .int (nI (t)))]) dX8_grow_122 rfl (by rw [hn]; decide) rfl ?_
        refine j_aload_n C 123 5 dX8_grow_123 rfl rfl ?_
        refine j_get C 124 (ci := 8) hL rfl 0 (wm_o0 bd c Z L) 10 (by decide) f35 rfl (v := .ref (bd 9)) rfl dX8_grow_124 ?_
        refine j_iload C 127 2 dX8_grow_127 rfl ?_
        refine j_iald C 129 9 0 (f := Z 9) (wm_a9 bd c Z L) rfl (by omega) (by decide) dX8_grow_129 ?_
        refine j_eqi (hY _ hrP.1).2.2.1 ?_
        refine j_aload_n C 130 5 dX8_grow_130 rfl rfl ?_
        refine j_get C 131 (ci := 8) hL rfl 0 (wm_o0 bd c Z L) 8 (by decide) f28 rfl (v := .ref (bd 7)) rfl dX8_grow_131 ?_
        refine j_iload C 134 2 dX8_grow_134 rfl ?_
        refine j_zald C 136 7 1 (f := Z 7) (wm_a7 bd c Z L) rfl (by omega) (by decide) dX8_grow_136 ?_
        refine j_eqi ((hY _ hrP.1).1.trans (by rw [hnr])) ?_
        refine j_if_eq_b C 137 (b := true) 158 dX8_grow_137 (by decide) (fun h => by cases h) (fun _ => ?_)
        refine j_aload_n C 140 5 dX8_grow_140 rfl rfl ?_
        refine j_get C 141 (ci := 8) hL rfl 0 (wm_o0 bd c Z L) 9 (by decide) f32 rfl (v := .ref (bd 8)) rfl dX8_grow_141 ?_
        refine j_iload C 144 2 dX8_grow_144 rfl ?_
        refine j_iald C 146 8 0 (f := Z 8) (wm_a8 bd c Z L) rfl (by omega) (by decide) dX8_grow_146 ?_
        refine j_eqi (hY _ hrP.1).2.1 ?_
        refine j_aload_n C 147 5 dX8_grow_147 rfl rfl ?_
        refine j_get C 148 (ci := 8) hL rfl 0 (wm_o0 bd c Z L) 10 (by decide) f35 rfl (v := .ref (bd 9)) rfl dX8_grow_148 ?_
        refine j_iload C 151 3 dX8_grow_151 rfl ?_
        refine j_iald C 153 9 0 (f := Z 9) (wm_a9 bd c Z L) rfl (by omega) (by decide) dX8_grow_153 ?_
        refine j_eqi (hY _ hlP.1).2.2.1 ?_
        refine j_ior_e C 154 (z := nI ((g_fi S (g_rt τ t)) ||| (g_af S (g_lf τ t)))) dX8_grow_154 (e_or _ _) ?_
        refine j_goto C 155 159 dX8_grow_155 (by decide) ?_
        refine j_ior_e C 159 (z := nI ((g_af S (g_rt τ t)) ||| ((g_fi S (g_rt τ t)) ||| (g_af S (g_lf τ t))))) dX8_grow_159 (e_or _ _) ?_
        refine j_istore C 160 (lv' := [(4, .int (nI ((g_af S (g_rt τ t)) ||| ((g_fi S (g_rt τ t)) ||| (g_af S (g_lf τ t)))))), (3, .int (nI ((g_fi S (g_lf τ t)) ||| (g_fi S (g_rt τ t))))), (2, .int (nI (1))), (6, .int (nI (g_rt τ t))), (5, .int (nI (g_lf τ t))), (0, .ref (bd 0)), (1, .int (nI (t)))]) dX8_grow_160 (by rw [hn]; decide) rfl ?_
        refine j_goto C 162 316 dX8_grow_162 (by decide) ?_
        exact j_lv [0, 1, 2, 5, 6] rfl (j316 (true, (g_fi S (g_lf τ t)) ||| (g_fi S (g_rt τ t)), (g_af S (g_rt τ t)) ||| ((g_fi S (g_rt τ t)) ||| (g_af S (g_lf τ t)))) (by rw [g_Fk3 hk, hnl, hnr]; rfl) _ rfl)
  · have hlP := g_lfP hwf hr2 ht (by omega)
    have hrP := g_rtP hwf hr2 ht (by omega)
    cases hnl : g_nu S (g_lf τ t) with
    | false =>
      cases hnr : g_nu S (g_rt τ t) with
      | false =>
        refine j_aload_n C 0 0 dX8_grow_0 rfl rfl ?_
        refine j_get C 1 (ci := 8) hL rfl 0 (wm_o0 bd c Z L) 2 (by decide) f7 rfl (v := .ref (bd 1)) rfl dX8_grow_1 ?_
        refine j_iload_n C 4 1 dX8_grow_4 rfl rfl ?_
        refine j_iald C 5 1 0 (f := Z 1) (wm_a1 bd c Z L) rfl (by omega) (by decide) dX8_grow_5 ?_
        refine j_eqi (hE t htn).1 ?_
        refine j_if_ne_n C 6 13 (by omega) dX8_grow_6 (by decide) (fun _ => ?_) (fun h => absurd h (by omega))
        refine j_iconst C 13 (v := nI 0) dX8_grow_13 rfl ?_
        refine j_istore_n C 14 (lv' := [(2, .int (nI (0))), (0, .ref (bd 0)), (1, .int (nI (t)))]) dX8_grow_14 rfl (by rw [hn]; decide) rfl ?_
        refine j_aload_n C 15 1 dX8_grow_15 rfl rfl ?_
        refine j_get C 16 (ci := 8) hL rfl 0 (wm_o0 bd c Z L) 2 (by decide) f7 rfl (v := .ref (bd 1)) rfl dX8_grow_16 ?_
        refine j_iload_n C 19 2 dX8_grow_19 rfl rfl ?_
        refine j_iald C 20 1 0 (f := Z 1) (wm_a1 bd c Z L) rfl (by omega) (by decide) dX8_grow_20 ?_
        refine j_eqi (hE t htn).1 ?_
        refine j_iconst C 21 (v := nI 2) dX8_grow_21 rfl ?_
        refine j_icmp_ne_n C 22 36 (by omega) (by omega) dX8_grow_22 (by decide) (fun _ => ?_) (fun h => absurd h (by omega))
        refine j_iconst C 36 (v := nI 0) dX8_grow_36 rfl ?_
        refine j_istore_n C 37 (lv' := [(3, .int (nI (0))), (2, .int (nI (0))), (0, .ref (bd 0)), (1, .int (nI (t)))]) dX8_grow_37 rfl (by rw [hn]; decide) rfl ?_
        refine j_iconst C 38 (v := nI 0) dX8_grow_38 rfl ?_
        refine j_istore C 39 (lv' := [(4, .int (nI (0))), (3, .int (nI (0))), (2, .int (nI (0))), (0, .ref (bd 0)), (1, .int (nI (t)))]) dX8_grow_39 (by rw [hn]; decide) rfl ?_
        refine j_aload_n C 41 3 dX8_grow_41 rfl rfl ?_
        refine j_get C 42 (ci := 8) hL rfl 0 (wm_o0 bd c Z L) 4 (by decide) f16 rfl (v := .ref (bd 3)) rfl dX8_grow_42 ?_
        refine j_iload_n C 45 4 dX8_grow_45 rfl rfl ?_
        refine j_iald C 46 3 0 (f := Z 3) (wm_a3 bd c Z L) rfl (by omega) (by decide) dX8_grow_46 ?_
        refine j_eqi (g_EM_lf hE htn (by omega)) ?_
        refine j_istore C 47 (lv' := [(5, .int (nI (g_lf τ t))), (4, .int (nI (0))), (3, .int (nI (0))), (2, .int (nI (0))), (0, .ref (bd 0)), (1, .int (nI (t)))]) dX8_grow_47 (by rw [hn]; decide) rfl ?_
        refine j_aload_n C 49 4 dX8_grow_49 rfl rfl ?_
        refine j_get C 50 (ci := 8) hL rfl 0 (wm_o0 bd c Z L) 5 (by decide) f19 rfl (v := .ref (bd 4)) rfl dX8_grow_50 ?_
        refine j_iload_n C 53 5 dX8_grow_53 rfl rfl ?_
        refine j_iald C 54 4 0 (f := Z 4) (wm_a4 bd c Z L) rfl (by omega) (by decide) dX8_grow_54 ?_
        refine j_eqi (g_EM_rt hE htn (by omega)) ?_
        refine j_istore C 55 (lv' := [(6, .int (nI (g_rt τ t))), (5, .int (nI (g_lf τ t))), (4, .int (nI (0))), (3, .int (nI (0))), (2, .int (nI (0))), (0, .ref (bd 0)), (1, .int (nI (t)))]) dX8_grow_55 (by rw [hn]; decide) rfl ?_
        refine j_aload_n C 57 5 dX8_grow_57 rfl rfl ?_
        refine j_get C 58 (ci := 8) hL rfl 0 (wm_o0 bd c Z L) 2 (by decide) f7 rfl (v := .ref (bd 1)) rfl dX8_grow_58 ?_
        refine j_iload_n C 61 6 dX8_grow_61 rfl rfl ?_
        refine j_iald C 62 1 0 (f := Z 1) (wm_a1 bd c Z L) rfl (by omega) (by decide) dX8_grow_62 ?_
        refine j_eqi (hE t htn).1 ?_
        refine j_iconst C 63 (v := nI 3) dX8_grow_63 rfl ?_
        refine j_icmp_ne_n C 64 165 (by omega) (by omega) dX8_grow_64 (by decide) (fun _ => ?_) (fun h => absurd h (by omega))
        refine j_aload_n C 165 5 dX8_grow_165 rfl rfl ?_
        refine j_get C 166 (ci := 8) hL rfl 0 (wm_o0 bd c Z L) 2 (by decide) f7 rfl (v := .ref (bd 1)) rfl dX8_grow_166 ?_
        refine j_iload_n C 169 6 dX8_grow_169 rfl rfl ?_
        refine j_iald C 170 1 0 (f := Z 1) (wm_a1 bd c Z L) rfl (by omega) (by decide) dX8_grow_170 ?_
        refine j_eqi (hE t htn).1 ?_
        refine j_iconst C 171 (v := nI 4) dX8_grow_171 rfl ?_
        refine j_icmp_ne_n C 172 237 (by omega) (by omega) dX8_grow_172 (by decide) (fun h => absurd h (by omega)) (fun _ => ?_)
        refine j_aload_n C 175 5 dX8_grow_175 rfl rfl ?_
        refine j_get C 176 (ci := 8) hL rfl 0 (wm_o0 bd c Z L) 8 (by decide) f28 rfl (v := .ref (bd 7)) rfl dX8_grow_176 ?_
        refine j_iload C 179 1 dX8_grow_179 rfl ?_
        refine j_zald C 181 7 1 (f := Z 7) (wm_a7 bd c Z L) rfl (by omega) (by decide) dX8_grow_181 ?_
        refine j_eqi ((hY _ hlP.1).1.trans (by rw [hnl])) ?_
        refine j_if_ne_b C 182 (b := false) 195 dX8_grow_182 (by decide) (fun h => by cases h) (fun _ => ?_)
        refine j_aload_n C 185 5 dX8_grow_185 rfl rfl ?_
        refine j_get C 186 (ci := 8) hL rfl 0 (wm_o0 bd c Z L) 8 (by decide) f28 rfl (v := .ref (bd 7)) rfl dX8_grow_186 ?_
        refine j_iload C 189 0 dX8_grow_189 rfl ?_
        refine j_zald C 191 7 1 (f := Z 7) (wm_a7 bd c Z L) rfl (by omega) (by decide) dX8_grow_191 ?_
        refine j_eqi ((hY _ hrP.1).1.trans (by rw [hnr])) ?_
        refine j_if_eq_b C 192 (b := false) 199 dX8_grow_192 (by decide) (fun _ => ?_) (fun h => by cases h)
        refine j_iconst C 199 (v := nI 0) dX8_grow_199 rfl ?_
        refine j_istore_n C 200 (lv' := [(2, .int (nI (0))), (6, .int (nI (g_rt τ t))), (5, .int (nI (g_lf τ t))), (4, .int (nI (0))), (3, .int (nI (0))), (0, .ref (bd 0)), (1, .int (nI (t)))]) dX8_grow_200 rfl (by rw [hn]; decide) rfl ?_
        refine j_aload_n C 201 5 dX8_grow_201 rfl rfl ?_
        refine j_get C 202 (ci := 8) hL rfl 0 (wm_o0 bd c Z L) 9 (by decide) f32 rfl (v := .ref (bd 8)) rfl dX8_grow_202 ?_
        refine j_iload C 205 2 dX8_grow_205 rfl ?_
        refine j_iald C 207 8 0 (f := Z 8) (wm_a8 bd c Z L) rfl (by omega) (by decide) dX8_grow_207 ?_
        refine j_eqi (hY _ hlP.1).2.1 ?_
        refine j_aload_n C 208 5 dX8_grow_208 rfl rfl ?_
        refine j_get C 209 (ci := 8) hL rfl 0 (wm_o0 bd c Z L) 9 (by decide) f32 rfl (v := .ref (bd 8)) rfl dX8_grow_209 ?_
        refine j_iload C 212 1 dX8_grow_212 rfl ?_
        refine j_iald C 214 8 0 (f := Z 8) (wm_a8 bd c Z L) rfl (by omega) (by decide) dX8_grow_214 ?_
        refine j_eqi (hY _ hrP.1).2.1 ?_
        refine j_ior_e C 215 (z := nI ((g_fi S (g_lf τ t)) ||| (g_fi S (g_rt τ t)))) dX8_grow_215 (e_or _ _) ?_
        refine j_istore_n C 216 (lv' := [(3, .int (nI ((g_fi S (g_lf τ t)) ||| (g_fi S (g_rt τ t))))), (2, .int (nI (0))), (6, .int (nI (g_rt τ t))), (5, .int (nI (g_lf τ t))), (4, .int (nI (0))), (0, .ref (bd 0)), (1, .int (nI (t)))]) dX8_grow_216 rfl (by rw [hn]; decide) rfl ?_
        refine j_aload_n C 217 5 dX8_grow_217 rfl rfl ?_
        refine j_get C 218 (ci := 8) hL rfl 0 (wm_o0 bd c Z L) 10 (by decide) f35 rfl (v := .ref (bd 9)) rfl dX8_grow_218 ?_
        refine j_iload C 221 3 dX8_grow_221 rfl ?_
        refine j_iald C 223 9 0 (f := Z 9) (wm_a9 bd c Z L) rfl (by omega) (by decide) dX8_grow_223 ?_
        refine j_eqi (hY _ hlP.1).2.2.1 ?_
        refine j_aload_n C 224 5 dX8_grow_224 rfl rfl ?_
        refine j_get C 225 (ci := 8) hL rfl 0 (wm_o0 bd c Z L) 10 (by decide) f35 rfl (v := .ref (bd 9)) rfl dX8_grow_225 ?_
        refine j_iload C 228 2 dX8_grow_228 rfl ?_
        refine j_iald C 230 9 0 (f := Z 9) (wm_a9 bd c Z L) rfl (by omega) (by decide) dX8_grow_230 ?_
        refine j_eqi (hY _ hrP.1).2.2.1 ?_
        refine j_ior_e C 231 (z := nI ((g_af S (g_lf τ t)) ||| (g_af S (g_rt τ t)))) dX8_grow_231 (e_or _ _) ?_
        refine j_istore C 232 (lv' := [(4, .int (nI ((g_af S (g_lf τ t)) ||| (g_af S (g_rt τ t))))), (3, .int (nI ((g_fi S (g_lf τ t)) ||| (g_fi S (g_rt τ t))))), (2, .int (nI (0))), (6, .int (nI (g_rt τ t))), (5, .int (nI (g_lf τ t))), (0, .ref (bd 0)), (1, .int (nI (t)))]) dX8_grow_232 (by rw [hn]; decide) rfl ?_
        refine j_goto C 234 316 dX8_grow_234 (by decide) ?_
        exact j_lv [0, 1, 2, 5, 6] rfl (j316 (false, (g_fi S (g_lf τ t)) ||| (g_fi S (g_rt τ t)), (g_af S (g_lf τ t)) ||| (g_af S (g_rt τ t))) (by rw [g_Fk4 hk]; show _ = (g_nu S (g_lf τ t) || g_nu S (g_rt τ t), _, _); rw [hnl, hnr]; rfl) _ rfl)
      | true =>
        refine j_aload_n C 0 0 dX8_grow_0 rfl rfl ?_
        refine j_get C 1 (ci := 8) hL rfl 0 (wm_o0 bd c Z L) 2 (by decide) f7 rfl (v := .ref (bd 1)) rfl dX8_grow_1 ?_
        refine j_iload_n C 4 1 dX8_grow_4 rfl rfl ?_
        refine j_iald C 5 1 0 (f := Z 1) (wm_a1 bd c Z L) rfl (by omega) (by decide) dX8_grow_5 ?_
        refine j_eqi (hE t htn).1 ?_
        refine j_if_ne_n C 6 13 (by omega) dX8_grow_6 (by decide) (fun _ => ?_) (fun h => absurd h (by omega))
        refine j_iconst C 13 (v := nI 0) dX8_grow_13 rfl ?_
        refine j_istore_n C 14 (lv' := [(2, .int (nI (0))), (0, .ref (bd 0)), (1, .int (nI (t)))]) dX8_grow_14 rfl (by rw [hn]; decide) rfl ?_
        refine j_aload_n C 15 1 dX8_grow_15 rfl rfl ?_
        refine j_get C 16 (ci := 8) hL rfl 0 (wm_o0 bd c Z L) 2 (by decide) f7 rfl (v := .ref (bd 1)) rfl dX8_grow_16 ?_
        refine j_iload_n C 19 2 dX8_grow_19 rfl rfl ?_
        refine j_iald C 20 1 0 (f := Z 1) (wm_a1 bd c Z L) rfl (by omega) (by decide) dX8_grow_20 ?_
        refine j_eqi (hE t htn).1 ?_
        refine j_iconst C 21 (v := nI 2) dX8_grow_21 rfl ?_
        refine j_icmp_ne_n C 22 36 (by omega) (by omega) dX8_grow_22 (by decide) (fun _ => ?_) (fun h => absurd h (by omega))
        refine j_iconst C 36 (v := nI 0) dX8_grow_36 rfl ?_
        refine j_istore_n C 37 (lv' := [(3, .int (nI (0))), (2, .int (nI (0))), (0, .ref (bd 0)), (1, .int (nI (t)))]) dX8_grow_37 rfl (by rw [hn]; decide) rfl ?_
        refine j_iconst C 38 (v := nI 0) dX8_grow_38 rfl ?_
        refine j_istore C 39 (lv' := [(4, .int (nI (0))), (3, .int (nI (0))), (2, .int (nI (0))), (0, .ref (bd 0)), (1, .int (nI (t)))]) dX8_grow_39 (by rw [hn]; decide) rfl ?_
        refine j_aload_n C 41 3 dX8_grow_41 rfl rfl ?_
        refine j_get C 42 (ci := 8) hL rfl 0 (wm_o0 bd c Z L) 4 (by decide) f16 rfl (v := .ref (bd 3)) rfl dX8_grow_42 ?_
        refine j_iload_n C 45 4 dX8_grow_45 rfl rfl ?_
        refine j_iald C 46 3 0 (f := Z 3) (wm_a3 bd c Z L) rfl (by omega) (by decide) dX8_grow_46 ?_
        refine j_eqi (g_EM_lf hE htn (by omega)) ?_
        refine j_istore C 47 (lv' := [(5, .int (nI (g_lf τ t))), (4, .int (nI (0))), (3, .int (nI (0))), (2, .int (nI (0))), (0, .ref (bd 0)), (1, .int (nI (t)))]) dX8_grow_47 (by rw [hn]; decide) rfl ?_
        refine j_aload_n C 49 4 dX8_grow_49 rfl rfl ?_
        refine j_get C 50 (ci := 8) hL rfl 0 (wm_o0 bd c Z L) 5 (by decide) f19 rfl (v := .ref (bd 4)) rfl dX8_grow_50 ?_
        refine j_iload_n C 53 5 dX8_grow_53 rfl rfl ?_
        refine j_iald C 54 4 0 (f := Z 4) (wm_a4 bd c Z L) rfl (by omega) (by decide) dX8_grow_54 ?_
        refine j_eqi (g_EM_rt hE htn (by omega)) ?_
        refine j_istore C 55 (lv' := [(6, .int (nI (g_rt τ t))), (5, .int (nI (g_lf τ t))), (4, .int (nI (0))), (3, .int (nI (0))), (2, .int (nI (0))), (0, .ref (bd 0)), (1, .int (nI (t)))]) dX8_grow_55 (by rw [hn]; decide) rfl ?_
        refine j_aload_n C 57 5 dX8_grow_57 rfl rfl ?_
        refine j_get C 58 (ci := 8) hL rfl 0 (wm_o0 bd c Z L) 2 (by decide) f7 rfl (v := .ref (bd 1)) rfl dX8_grow_58 ?_
        refine j_iload_n C 61 6 dX8_grow_61 rfl rfl ?_
        refine j_iald C 62 1 0 (f := Z 1) (wm_a1 bd c Z L) rfl (by omega) (by decide) dX8_grow_62 ?_
        refine j_eqi (hE t htn).1 ?_
        refine j_iconst C 63 (v := nI 3) dX8_grow_63 rfl ?_
        refine j_icmp_ne_n C 64 165 (by omega) (by omega) dX8_grow_64 (by decide) (fun _ => ?_) (fun h => absurd h (by omega))
        refine j_aload_n C 165 5 dX8_grow_165 rfl rfl ?_
        refine j_get C 166 (ci := 8) hL rfl 0 (wm_o0 bd c Z L) 2 (by decide) f7 rfl (v := .ref (bd 1)) rfl dX8_grow_166 ?_
        refine j_iload_n C 169 6 dX8_grow_169 rfl rfl ?_
        refine j_iald C 170 1 0 (f := Z 1) (wm_a1 bd c Z L) rfl (by omega) (by decide) dX8_grow_170 ?_
        refine j_eqi (hE t htn).1 ?_
        refine j_iconst C 171 (v := nI 4) dX8_grow_171 rfl ?_
        refine j_icmp_ne_n C 172 237 (by omega) (by omega) dX8_grow_172 (by decide) (fun h => absurd h (by omega)) (fun _ => ?_)
        refine j_aload_n C 175 5 dX8_grow_175 rfl rfl ?_
        refine j_get C 176 (ci := 8) hL rfl 0 (wm_o0 bd c Z L) 8 (by decide) f28 rfl (v := .ref (bd 7)) rfl dX8_grow_176 ?_
        refine j_iload C 179 1 dX8_grow_179 rfl ?_
        refine j_zald C 181 7 1 (f := Z 7) (wm_a7 bd c Z L) rfl (by omega) (by decide) dX8_grow_181 ?_
        refine j_eqi ((hY _ hlP.1).1.trans (by rw [hnl])) ?_
        refine j_if_ne_b C 182 (b := false) 195 dX8_grow_182 (by decide) (fun h => by cases h) (fun _ => ?_)
        refine j_aload_n C 185 5 dX8_grow_185 rfl rfl ?_
        refine j_get C 186 (ci := 8) hL rfl 0 (wm_o0 bd c Z L) 8 (by decide) f28 rfl (v := .ref (bd 7)) rfl dX8_grow_186 ?_
        refine j_iload C 189 0 dX8_grow_189 rfl ?_
        refine j_zald C 191 7 1 (f := Z 7) (wm_a7 bd c Z L) rfl (by omega) (by decide) dX8_grow_191 ?_
        refine j_eqi ((hY _ hrP.1).1.trans (by rw [hnr])) ?_
        refine j_if_eq_b C 192 (b := true) 199 dX8_grow_192 (by decide) (fun h => by cases h) (fun _ => ?_)
        refine j_iconst C 195 (v := nI 1) dX8_grow_195 rfl ?_
        refine j_goto C 196 200 dX8_grow_196 (by decide) ?_
        refine j_istore_n C 200 (lv' := [(2, .int (nI (1))), (6, .int (nI (g_rt τ t))), (5, .int (nI (g_lf τ t))), (4, .int (nI (0))), (3, .int (nI (0))), (0, .ref (bd 0)), (1, .int (nI (t)))]) dX8_grow_200 rfl (by rw [hn]; decide) rfl ?_
        refine j_aload_n C 201 5 dX8_grow_201 rfl rfl ?_
        refine j_get C 202 (ci := 8) hL rfl 0 (wm_o0 bd c Z L) 9 (by decide) f32 rfl (v := .ref (bd 8)) rfl dX8_grow_202 ?_
        refine j_iload C 205 2 dX8_grow_205 rfl ?_
        refine j_iald C 207 8 0 (f := Z 8) (wm_a8 bd c Z L) rfl (by omega) (by decide) dX8_grow_207 ?_
        refine j_eqi (hY _ hlP.1).2.1 ?_
        refine j_aload_n C 208 5 dX8_grow_208 rfl rfl ?_
        refine j_get C 209 (ci := 8) hL rfl 0 (wm_o0 bd c Z L) 9 (by decide) f32 rfl (v := .ref (bd 8)) rfl dX8_grow_209 ?_
        refine j_iload C 212 1 dX8_grow_212 rfl ?_
        refine j_iald C 214 8 0 (f := Z 8) (wm_a8 bd c Z L) rfl (by omega) (by decide) dX8_grow_214 ?_
        refine j_eqi (hY _ hrP.1).2.1 ?_
        refine j_ior_e C 215 (z := nI ((g_fi S (g_lf τ t)) ||| (g_fi S (g_rt τ t)))) dX8_grow_215 (e_or _ _) ?_
        refine j_istore_n C 216 (lv' := [(3, .int (nI ((g_fi S (g_lf τ t)) ||| (g_fi S (g_rt τ t))))), (2, .int (nI (1))), (6, .int (nI (g_rt τ t))), (5, .int (nI (g_lf τ t))), (4, .int (nI (0))), (0, .ref (bd 0)), (1, .int (nI (t)))]) dX8_grow_216 rfl (by rw [hn]; decide) rfl ?_
        refine j_aload_n C 217 5 dX8_grow_217 rfl rfl ?_
        refine j_get C 218 (ci := 8) hL rfl 0 (wm_o0 bd c Z L) 10 (by decide) f35 rfl (v := .ref (bd 9)) rfl dX8_grow_218 ?_
        refine j_iload C 221 3 dX8_grow_221 rfl ?_
        refine j_iald C 223 9 0 (f := Z 9) (wm_a9 bd c Z L) rfl (by omega) (by decide) dX8_grow_223 ?_
        refine j_eqi (hY _ hlP.1).2.2.1 ?_
        refine j_aload_n C 224 5 dX8_grow_224 rfl rfl ?_
        refine j_get C 225 (ci := 8) hL rfl 0 (wm_o0 bd c Z L) 10 (by decide) f35 rfl (v := .ref (bd 9)) rfl dX8_grow_225 ?_
        refine j_iload C 228 2 dX8_grow_228 rfl ?_
        refine j_iald C 230 9 0 (f := Z 9) (wm_a9 bd c Z L) rfl (by omega) (by decide) dX8_grow_230 ?_
        refine j_eqi (hY _ hrP.1).2.2.1 ?_
        refine j_ior_e C 231 (z := nI ((g_af S (g_lf τ t)) ||| (g_af S (g_rt τ t)))) dX8_grow_231 (e_or _ _) ?_
        refine j_istore C 232 (lv' := [(4, .int (nI ((g_af S (g_lf τ t)) ||| (g_af S (g_rt τ t))))), (3, .int (nI ((g_fi S (g_lf τ t)) ||| (g_fi S (g_rt τ t))))), (2, .int (nI (1))), (6, .int (nI (g_rt τ t))), (5, .int (nI (g_lf τ t))), (0, .ref (bd 0)), (1, .int (nI (t)))]) dX8_grow_232 (by rw [hn]; decide) rfl ?_
        refine j_goto C 234 316 dX8_grow_234 (by decide) ?_
        exact j_lv [0, 1, 2, 5, 6] rfl (j316 (true, (g_fi S (g_lf τ t)) ||| (g_fi S (g_rt τ t)), (g_af S (g_lf τ t)) ||| (g_af S (g_rt τ t))) (by rw [g_Fk4 hk]; show _ = (g_nu S (g_lf τ t) || g_nu S (g_rt τ t), _, _); rw [hnl, hnr]; rfl) _ rfl)
    | true =>
      cases hnr : g_nu S (g_rt τ t) with
      | false =>
        refine j_aload_n C 0 0 dX8_grow_0 rfl rfl ?_
        refine j_get C 1 (ci := 8) hL rfl 0 (wm_o0 bd c Z L) 2 (by decide) f7 rfl (v := .ref (bd 1)) rfl dX8_grow_1 ?_
        refine j_iload_n C 4 1 dX8_grow_4 rfl rfl ?_
        refine j_iald C 5 1 0 (f := Z 1) (wm_a1 bd c Z L) rfl (by omega) (by decide) dX8_grow_5 ?_
        refine j_eqi (hE t htn).1 ?_
        refine j_if_ne_n C 6 13 (by omega) dX8_grow_6 (by decide) (fun _ => ?_) (fun h => absurd h (by omega))
        refine j_iconst C 13 (v := nI 0) dX8_grow_13 rfl ?_
        refine j_istore_n C 14 (lv' := [(2, .int (nI (0))), (0, .ref (bd 0)), (1, .int (nI (t)))]) dX8_grow_14 rfl (by rw [hn]; decide) rfl ?_
        refine j_aload_n C 15 1 dX8_grow_15 rfl rfl ?_
        refine j_get C 16 (ci := 8) hL rfl 0 (wm_o0 bd c Z L) 2 (by decide) f7 rfl (v := .ref (bd 1)) rfl dX8_grow_16 ?_
        refine j_iload_n C 19 2 dX8_grow_19 rfl rfl ?_
        refine j_iald C 20 1 0 (f := Z 1) (wm_a1 bd c Z L) rfl (by omega) (by decide) dX8_grow_20 ?_
        refine j_eqi (hE t htn).1 ?_
        refine j_iconst C 21 (v := nI 2) dX8_grow_21 rfl ?_
        refine j_icmp_ne_n C 22 36 (by omega) (by omega) dX8_grow_22 (by decide) (fun _ => ?_) (fun h => absurd h (by omega))
        refine j_iconst C 36 (v := nI 0) dX8_grow_36 rfl ?_
        refine j_istore_n C 37 (lv' := [(3, .int (nI (0))), (2, .int (nI (0))), (0, .ref (bd 0)), (1, .int (nI (t)))]) dX8_grow_37 rfl (by rw [hn]; decide) rfl ?_
        refine j_iconst C 38 (v := nI 0) dX8_grow_38 rfl ?_
        refine j_istore C 39 (lv' := [(4, .int (nI (0))), (3, .int (nI (0))), (2, .int (nI (0))), (0, .ref (bd 0)), (1, .int (nI (t)))]) dX8_grow_39 (by rw [hn]; decide) rfl ?_
        refine j_aload_n C 41 3 dX8_grow_41 rfl rfl ?_
        refine j_get C 42 (ci := 8) hL rfl 0 (wm_o0 bd c Z L) 4 (by decide) f16 rfl (v := .ref (bd 3)) rfl dX8_grow_42 ?_
        refine j_iload_n C 45 4 dX8_grow_45 rfl rfl ?_
        refine j_iald C 46 3 0 (f := Z 3) (wm_a3 bd c Z L) rfl (by omega) (by decide) dX8_grow_46 ?_
        refine j_eqi (g_EM_lf hE htn (by omega)) ?_
        refine j_istore C 47 (lv' := [(5, .int (nI (g_lf τ t))), (4, .int (nI (0))), (3, .int (nI (0))), (2, .int (nI (0))), (0, .ref (bd 0)), (1, .int (nI (t)))]) dX8_grow_47 (by rw [hn]; decide) rfl ?_
        refine j_aload_n C 49 4 dX8_grow_49 rfl rfl ?_
        refine j_get C 50 (ci := 8) hL rfl 0 (wm_o0 bd c Z L) 5 (by decide) f19 rfl (v := .ref (bd 4)) rfl dX8_grow_50 ?_
        refine j_iload_n C 53 5 dX8_grow_53 rfl rfl ?_
        refine j_iald C 54 4 0 (f := Z 4) (wm_a4 bd c Z L) rfl (by omega) (by decide) dX8_grow_54 ?_
        refine j_eqi (g_EM_rt hE htn (by omega)) ?_
        refine j_istore C 55 (lv' := [(6, .int (nI (g_rt τ t))), (5, .int (nI (g_lf τ t))), (4, .int (nI (0))), (3, .int (nI (0))), (2, .int (nI (0))), (0, .ref (bd 0)), (1, .int (nI (t)))]) dX8_grow_55 (by rw [hn]; decide) rfl ?_
        refine j_aload_n C 57 5 dX8_grow_57 rfl rfl ?_
        refine j_get C 58 (ci := 8) hL rfl 0 (wm_o0 bd c Z L) 2 (by decide) f7 rfl (v := .ref (bd 1)) rfl dX8_grow_58 ?_
        refine j_iload_n C 61 6 dX8_grow_61 rfl rfl ?_
        refine j_iald C 62 1 0 (f := Z 1) (wm_a1 bd c Z L) rfl (by omega) (by decide) dX8_grow_62 ?_
        refine j_eqi (hE t htn).1 ?_
        refine j_iconst C 63 (v := nI 3) dX8_grow_63 rfl ?_
        refine j_icmp_ne_n C 64 165 (by omega) (by omega) dX8_grow_64 (by decide) (fun _ => ?_) (fun h => absurd h (by omega))
        refine j_aload_n C 165 5 dX8_grow_165 rfl rfl ?_
        refine j_get C 166 (ci := 8) hL rfl 0 (wm_o0 bd c Z L) 2 (by decide) f7 rfl (v := .ref (bd 1)) rfl dX8_grow_166 ?_
        refine j_iload_n C 169 6 dX8_grow_169 rfl rfl ?_
        refine j_iald C 170 1 0 (f := Z 1) (wm_a1 bd c Z L) rfl (by omega) (by decide) dX8_grow_170 ?_
        refine j_eqi (hE t htn).1 ?_
        refine j_iconst C 171 (v := nI 4) dX8_grow_171 rfl ?_
        refine j_icmp_ne_n C 172 237 (by omega) (by omega) dX8_grow_172 (by decide) (fun h => absurd h (by omega)) (fun _ => ?_)
        refine j_aload_n C 175 5 dX8_grow_175 rfl rfl ?_
        refine j_get C 176 (ci := 8) hL rfl 0 (wm_o0 bd c Z L) 8 (by decide) f28 rfl (v := .ref (bd 7)) rfl dX8_grow_176 ?_
        refine j_iload C 179 1 dX8_grow_179 rfl ?_
        refine j_zald C 181 7 1 (f := Z 7) (wm_a7 bd c Z L) rfl (by omega) (by decide) dX8_grow_181 ?_
        refine j_eqi ((hY _ hlP.1).1.trans (by rw [hnl])) ?_
        refine j_if_ne_b C 182 (b := true) 195 dX8_grow_182 (by decide) (fun _ => ?_) (fun h => by cases h)
        refine j_iconst C 195 (v := nI 1) dX8_grow_195 rfl ?_
        refine j_goto C 196 200 dX8_grow_196 (by decide) ?_
        refine j_istore_n C 200 (lv' := [(2, .int (nI (1))), (6, .int (nI (g_rt τ t))), (5, .int (nI (g_lf τ t))), (4, .int (nI (0))), (3, .int (nI (0))), (0, .ref (bd 0)), (1, .int (nI (t)))]) dX8_grow_200 rfl (by rw [hn]; decide) rfl ?_
        refine j_aload_n C 201 5 dX8_grow_201 rfl rfl ?_
        refine j_get C 202 (ci := 8) hL rfl 0 (wm_o0 bd c Z L) 9 (by decide) f32 rfl (v := .ref (bd 8)) rfl dX8_grow_202 ?_
        refine j_iload C 205 2 dX8_grow_205 rfl ?_
        refine j_iald C 207 8 0 (f := Z 8) (wm_a8 bd c Z L) rfl (by omega) (by decide) dX8_grow_207 ?_
        refine j_eqi (hY _ hlP.1).2.1 ?_
        refine j_aload_n C 208 5 dX8_grow_208 rfl rfl ?_
        refine j_get C 209 (ci := 8) hL rfl 0 (wm_o0 bd c Z L) 9 (by decide) f32 rfl (v := .ref (bd 8)) rfl dX8_grow_209 ?_
        refine j_iload C 212 1 dX8_grow_212 rfl ?_
        refine j_iald C 214 8 0 (f := Z 8) (wm_a8 bd c Z L) rfl (by omega) (by decide) dX8_grow_214 ?_
        refine j_eqi (hY _ hrP.1).2.1 ?_
        refine j_ior_e C 215 (z := nI ((g_fi S (g_lf τ t)) ||| (g_fi S (g_rt τ t)))) dX8_grow_215 (e_or _ _) ?_
        refine j_istore_n C 216 (lv' := [(3, .int (nI ((g_fi S (g_lf τ t)) ||| (g_fi S (g_rt τ t))))), (2, .int (nI (1))), (6, .int (nI (g_rt τ t))), (5, .int (nI (g_lf τ t))), (4, .int (nI (0))), (0, .ref (bd 0)), (1, .int (nI (t)))]) dX8_grow_216 rfl (by rw [hn]; decide) rfl ?_
        refine j_aload_n C 217 5 dX8_grow_217 rfl rfl ?_
        refine j_get C 218 (ci := 8) hL rfl 0 (wm_o0 bd c Z L) 10 (by decide) f35 rfl (v := .ref (bd 9)) rfl dX8_grow_218 ?_
        refine j_iload C 221 3 dX8_grow_221 rfl ?_
        refine j_iald C 223 9 0 (f := Z 9) (wm_a9 bd c Z L) rfl (by omega) (by decide) dX8_grow_223 ?_
        refine j_eqi (hY _ hlP.1).2.2.1 ?_
        refine j_aload_n C 224 5 dX8_grow_224 rfl rfl ?_
        refine j_get C 225 (ci := 8) hL rfl 0 (wm_o0 bd c Z L) 10 (by decide) f35 rfl (v := .ref (bd 9)) rfl dX8_grow_225 ?_
        refine j_iload C 228 2 dX8_grow_228 rfl ?_
        refine j_iald C 230 9 0 (f := Z 9) (wm_a9 bd c Z L) rfl (by omega) (by decide) dX8_grow_230 ?_
        refine j_eqi (hY _ hrP.1).2.2.1 ?_
        refine j_ior_e C 231 (z := nI ((g_af S (g_lf τ t)) ||| (g_af S (g_rt τ t)))) dX8_grow_231 (e_or _ _) ?_
        refine j_istore C 232 (lv' := [(4, .int (nI ((g_af S (g_lf τ t)) ||| (g_af S (g_rt τ t))))), (3, .int (nI ((g_fi S (g_lf τ t)) ||| (g_fi S (g_rt τ t))))), (2, .int (nI (1))), (6, .int (nI (g_rt τ t))), (5, .int (nI (g_lf τ t))), (0, .ref (bd 0)), (1, .int (nI (t)))]) dX8_grow_232 (by rw [hn]; decide) rfl ?_
        refine j_goto C 234 316 dX8_grow_234 (by decide) ?_
        exact j_lv [0, 1, 2, 5, 6] rfl (j316 (true, (g_fi S (g_lf τ t)) ||| (g_fi S (g_rt τ t)), (g_af S (g_lf τ t)) ||| (g_af S (g_rt τ t))) (by rw [g_Fk4 hk]; show _ = (g_nu S (g_lf τ t) || g_nu S (g_rt τ t), _, _); rw [hnl, hnr]; rfl) _ rfl)
      | true =>
        refine j_aload_n C 0 0 dX8_grow_0 rfl rfl ?_
        refine j_get C 1 (ci := 8) hL rfl 0 (wm_o0 bd c Z L) 2 (by decide) f7 rfl (v := .ref (bd 1)) rfl dX8_grow_1 ?_
        refine j_iload_n C 4 1 dX8_grow_4 rfl rfl ?_
        refine j_iald C 5 1 0 (f := Z 1) (wm_a1 bd c Z L) rfl (by omega) (by decide) dX8_grow_5 ?_
        refine j_eqi (hE t htn).1 ?_
        refine j_if_ne_n C 6 13 (by omega) dX8_grow_6 (by decide) (fun _ => ?_) (fun h => absurd h (by omega))
        refine j_iconst C 13 (v := nI 0) dX8_grow_13 rfl ?_
        refine j_istore_n C 14 (lv' := [(2, .int (nI (0))), (0, .ref (bd 0)), (1, .int (nI (t)))]) dX8_grow_14 rfl (by rw [hn]; decide) rfl ?_
        refine j_aload_n C 15 1 dX8_grow_15 rfl rfl ?_
        refine j_get C 16 (ci := 8) hL rfl 0 (wm_o0 bd c Z L) 2 (by decide) f7 rfl (v := .ref (bd 1)) rfl dX8_grow_16 ?_
        refine j_iload_n C 19 2 dX8_grow_19 rfl rfl ?_
        refine j_iald C 20 1 0 (f := Z 1) (wm_a1 bd c Z L) rfl (by omega) (by decide) dX8_grow_20 ?_
        refine j_eqi (hE t htn).1 ?_
        refine j_iconst C 21 (v := nI 2) dX8_grow_21 rfl ?_
        refine j_icmp_ne_n C 22 36 (by omega) (by omega) dX8_grow_22 (by decide) (fun _ => ?_) (fun h => absurd h (by omega))
        refine j_iconst C 36 (v := nI 0) dX8_grow_36 rfl ?_
        refine j_istore_n C 37 (lv' := [(3, .int (nI (0))), (2, .int (nI (0))), (0, .ref (bd 0)), (1, .int (nI (t)))]) dX8_grow_37 rfl (by rw [hn]; decide) rfl ?_
        refine j_iconst C 38 (v := nI 0) dX8_grow_38 rfl ?_
        refine j_istore C 39 (lv' := [(4, .int (nI (0))), (3, .int (nI (0))), (2, .int (nI (0))), (0, .ref (bd 0)), (1, .int (nI (t)))]) dX8_grow_39 (by rw [hn]; decide) rfl ?_
        refine j_aload_n C 41 3 dX8_grow_41 rfl rfl ?_
        refine j_get C 42 (ci := 8) hL rfl 0 (wm_o0 bd c Z L) 4 (by decide) f16 rfl (v := .ref (bd 3)) rfl dX8_grow_42 ?_
        refine j_iload_n C 45 4 dX8_grow_45 rfl rfl ?_
        refine j_iald C 46 3 0 (f := Z 3) (wm_a3 bd c Z L) rfl (by omega) (by decide) dX8_grow_46 ?_
        refine j_eqi (g_EM_lf hE htn (by omega)) ?_
        refine j_istore C 47 (lv' := [(5, .int (nI (g_lf τ t))), (4, .int (nI (0))), (3, .int (nI (0))), (2, .int (nI (0))), (0, .ref (bd 0)), (1, .int (nI (t)))]) dX8_grow_47 (by rw [hn]; decide) rfl ?_
        refine j_aload_n C 49 4 dX8_grow_49 rfl rfl ?_
        refine j_get C 50 (ci := 8) hL rfl 0 (wm_o0 bd c Z L) 5 (by decide) f19 rfl (v := .ref (bd 4)) rfl dX8_grow_50 ?_
        refine j_iload_n C 53 5 dX8_grow_53 rfl rfl ?_
        refine j_iald C 54 4 0 (f := Z 4) (wm_a4 bd c Z L) rfl (by omega) (by decide) dX8_grow_54 ?_
        refine j_eqi (g_EM_rt hE htn (by omega)) ?_
        refine j_istore C 55 (lv' := [(6, .int (nI (g_rt τ t))), (5, .int (nI (g_lf τ t))), (4, .int (nI (0))), (3, .int (nI (0))), (2, .int (nI (0))), (0, .ref (bd 0)), (1, .int (nI (t)))]) dX8_grow_55 (by rw [hn]; decide) rfl ?_
        refine j_aload_n C 57 5 dX8_grow_57 rfl rfl ?_
        refine j_get C 58 (ci := 8) hL rfl 0 (wm_o0 bd c Z L) 2 (by decide) f7 rfl (v := .ref (bd 1)) rfl dX8_grow_58 ?_
        refine j_iload_n C 61 6 dX8_grow_61 rfl rfl ?_
        refine j_iald C 62 1 0 (f := Z 1) (wm_a1 bd c Z L) rfl (by omega) (by decide) dX8_grow_62 ?_
        refine j_eqi (hE t htn).1 ?_
        refine j_iconst C 63 (v := nI 3) dX8_grow_63 rfl ?_
        refine j_icmp_ne_n C 64 165 (by omega) (by omega) dX8_grow_64 (by decide) (fun _ => ?_) (fun h => absurd h (by omega))
        refine j_aload_n C 165 5 dX8_grow_165 rfl rfl ?_
        refine j_get C 166 (ci := 8) hL rfl 0 (wm_o0 bd c Z L) 2 (by decide) f7 rfl (v := .ref (bd 1)) rfl dX8_grow_166 ?_
        refine j_iload_n C 169 6 dX8_grow_169 rfl rfl ?_
        refine j_iald C 170 1 0 (f := Z 1) (wm_a1 bd c Z L) rfl (by omega) (by decide) dX8_grow_170 ?_
        refine j_eqi (hE t htn).1 ?_
        refine j_iconst C 171 (v := nI 4) dX8_grow_171 rfl ?_
        refine j_icmp_ne_n C 172 237 (by omega) (by omega) dX8_grow_172 (by decide) (fun h => absurd h (by omega)) (fun _ => ?_)
        refine j_aload_n C 175 5 dX8_grow_175 rfl rfl ?_
        refine j_get C 176 (ci := 8) hL rfl 0 (wm_o0 bd c Z L) 8 (by decide) f28 rfl (v := .ref (bd 7)) rfl dX8_grow_176 ?_
        refine j_iload C 179 1 dX8_grow_179 rfl ?_
        refine j_zald C 181 7 1 (f := Z 7) (wm_a7 bd c Z L) rfl (by omega) (by decide) dX8_grow_181 ?_
        refine j_eqi ((hY _ hlP.1).1.trans (by rw [hnl])) ?_
        refine j_if_ne_b C 182 (b := true) 195 dX8_grow_182 (by decide) (fun _ => ?_) (fun h => by cases h)
        refine j_iconst C 195 (v := nI 1) dX8_grow_195 rfl ?_
        refine j_goto C 196 200 dX8_grow_196 (by decide) ?_
        refine j_istore_n C 200 (lv' := [(2, .int (nI (1))), (6, .int (nI (g_rt τ t))), (5, .int (nI (g_lf τ t))), (4, .int (nI (0))), (3, .int (nI (0))), (0, .ref (bd 0)), (1, .int (nI (t)))]) dX8_grow_200 rfl (by rw [hn]; decide) rfl ?_
        refine j_aload_n C 201 5 dX8_grow_201 rfl rfl ?_
        refine j_get C 202 (ci := 8) hL rfl 0 (wm_o0 bd c Z L) 9 (by decide) f32 rfl (v := .ref (bd 8)) rfl dX8_grow_202 ?_
        refine j_iload C 205 2 dX8_grow_205 rfl ?_
        refine j_iald C 207 8 0 (f := Z 8) (wm_a8 bd c Z L) rfl (by omega) (by decide) dX8_grow_207 ?_
        refine j_eqi (hY _ hlP.1).2.1 ?_
        refine j_aload_n C 208 5 dX8_grow_208 rfl rfl ?_
        refine j_get C 209 (ci := 8) hL rfl 0 (wm_o0 bd c Z L) 9 (by decide) f32 rfl (v := .ref (bd 8)) rfl dX8_grow_209 ?_
        refine j_iload C 212 1 dX8_grow_212 rfl ?_
        refine j_iald C 214 8 0 (f := Z 8) (wm_a8 bd c Z L) rfl (by omega) (by decide) dX8_grow_214 ?_
        refine j_eqi (hY _ hrP.1).2.1 ?_
        refine j_ior_e C 215 (z := nI ((g_fi S (g_lf τ t)) ||| (g_fi S (g_rt τ t)))) dX8_grow_215 (e_or _ _) ?_
        refine j_istore_n C 216 (lv' := [(3, .int (nI ((g_fi S (g_lf τ t)) ||| (g_fi S (g_rt τ t))))), (2, .int (nI (1))), (6, .int (nI (g_rt τ t))), (5, .int (nI (g_lf τ t))), (4, .int (nI (0))), (0, .ref (bd 0)), (1, .int (nI (t)))]) dX8_grow_216 rfl (by rw [hn]; decide) rfl ?_
        refine j_aload_n C 217 5 dX8_grow_217 rfl rfl ?_
        refine j_get C 218 (ci := 8) hL rfl 0 (wm_o0 bd c Z L) 10 (by decide) f35 rfl (v := .ref (bd 9)) rfl dX8_grow_218 ?_
        refine j_iload C 221 3 dX8_grow_221 rfl ?_
        refine j_iald C 223 9 0 (f := Z 9) (wm_a9 bd c Z L) rfl (by omega) (by decide) dX8_grow_223 ?_
        refine j_eqi (hY _ hlP.1).2.2.1 ?_
        refine j_aload_n C 224 5 dX8_grow_224 rfl rfl ?_
        refine j_get C 225 (ci := 8) hL rfl 0 (wm_o0 bd c Z L) 10 (by decide) f35 rfl (v := .ref (bd 9)) rfl dX8_grow_225 ?_
        refine j_iload C 228 2 dX8_grow_228 rfl ?_
        refine j_iald C 230 9 0 (f := Z 9) (wm_a9 bd c Z L) rfl (by omega) (by decide) dX8_grow_230 ?_
        refine j_eqi (hY _ hrP.1).2.2.1 ?_
        refine j_ior_e C 231 (z := nI ((g_af S (g_lf τ t)) ||| (g_af S (g_rt τ t)))) dX8_grow_231 (e_or _ _) ?_
        refine j_istore C 232 (lv' := [(4, .int (nI ((g_af S (g_lf τ t)) ||| (g_af S (g_rt τ t))))), (3, .int (nI ((g_fi S (g_lf τ t)) ||| (g_fi S (g_rt τ t))))), (2, .int (nI (1))), (6, .int (nI (g_rt τ t))), (5, .int (nI (g_lf τ t))), (0, .ref (bd 0)), (1, .int (nI (t)))]) dX8_grow_232 (by rw [hn]; decide) rfl ?_
        refine j_goto C 234 316 dX8_grow_234 (by decide) ?_
        exact j_lv [0, 1, 2, 5, 6] rfl (j316 (true, (g_fi S (g_lf τ t)) ||| (g_fi S (g_rt τ t)), (g_af S (g_lf τ t)) ||| (g_af S (g_rt τ t))) (by rw [g_Fk4 hk]; show _ = (g_nu S (g_lf τ t) || g_nu S (g_rt τ t), _, _); rw [hnl, hnr]; rfl) _ rfl)
  · cases e : g_B τ root (g_sg τ t) t with
    | none =>
      refine j_aload_n C 0 0 dX8_grow_0 rfl rfl ?_
      refine j_get C 1 (ci := 8) hL rfl 0 (wm_o0 bd c Z L) 2 (by decide) f7 rfl (v := .ref (bd 1)) rfl dX8_grow_1 ?_
      refine j_iload_n C 4 1 dX8_grow_4 rfl rfl ?_
      refine j_iald C 5 1 0 (f := Z 1) (wm_a1 bd c Z L) rfl (by omega) (by decide) dX8_grow_5 ?_
      refine j_eqi (hE t htn).1 ?_
      refine j_if_ne_n C 6 13 (by omega) dX8_grow_6 (by decide) (fun _ => ?_) (fun h => absurd h (by omega))
      refine j_iconst C 13 (v := nI 0) dX8_grow_13 rfl ?_
      refine j_istore_n C 14 (lv' := [(2, .int (nI (0))), (0, .ref (bd 0)), (1, .int (nI (t)))]) dX8_grow_14 rfl (by rw [hn]; decide) rfl ?_
      refine j_aload_n C 15 1 dX8_grow_15 rfl rfl ?_
      refine j_get C 16 (ci := 8) hL rfl 0 (wm_o0 bd c Z L) 2 (by decide) f7 rfl (v := .ref (bd 1)) rfl dX8_grow_16 ?_
      refine j_iload_n C 19 2 dX8_grow_19 rfl rfl ?_
      refine j_iald C 20 1 0 (f := Z 1) (wm_a1 bd c Z L) rfl (by omega) (by decide) dX8_grow_20 ?_
      refine j_eqi (hE t htn).1 ?_
      refine j_iconst C 21 (v := nI 2) dX8_grow_21 rfl ?_
      refine j_icmp_ne_n C 22 36 (by omega) (by omega) dX8_grow_22 (by decide) (fun _ => ?_) (fun h => absurd h (by omega))
      refine j_iconst C 36 (v := nI 0) dX8_grow_36 rfl ?_
      refine j_istore_n C 37 (lv' := [(3, .int (nI (0))), (2, .int (nI (0))), (0, .ref (bd 0)), (1, .int (nI (t)))]) dX8_grow_37 rfl (by rw [hn]; decide) rfl ?_
      refine j_iconst C 38 (v := nI 0) dX8_grow_38 rfl ?_
      refine j_istore C 39 (lv' := [(4, .int (nI (0))), (3, .int (nI (0))), (2, .int (nI (0))), (0, .ref (bd 0)), (1, .int (nI (t)))]) dX8_grow_39 (by rw [hn]; decide) rfl ?_
      refine j_aload_n C 41 3 dX8_grow_41 rfl rfl ?_
      refine j_get C 42 (ci := 8) hL rfl 0 (wm_o0 bd c Z L) 4 (by decide) f16 rfl (v := .ref (bd 3)) rfl dX8_grow_42 ?_
      refine j_iload_n C 45 4 dX8_grow_45 rfl rfl ?_
      refine j_iald C 46 3 0 (f := Z 3) (wm_a3 bd c Z L) rfl (by omega) (by decide) dX8_grow_46 ?_
      refine j_istore C 47 (lv' := [(5, .int ((Z 3) (t))), (4, .int (nI (0))), (3, .int (nI (0))), (2, .int (nI (0))), (0, .ref (bd 0)), (1, .int (nI (t)))]) dX8_grow_47 (by rw [hn]; decide) rfl ?_
      refine j_aload_n C 49 4 dX8_grow_49 rfl rfl ?_
      refine j_get C 50 (ci := 8) hL rfl 0 (wm_o0 bd c Z L) 5 (by decide) f19 rfl (v := .ref (bd 4)) rfl dX8_grow_50 ?_
      refine j_iload_n C 53 5 dX8_grow_53 rfl rfl ?_
      refine j_iald C 54 4 0 (f := Z 4) (wm_a4 bd c Z L) rfl (by omega) (by decide) dX8_grow_54 ?_
      refine j_istore C 55 (lv' := [(6, .int ((Z 4) (t))), (5, .int ((Z 3) (t))), (4, .int (nI (0))), (3, .int (nI (0))), (2, .int (nI (0))), (0, .ref (bd 0)), (1, .int (nI (t)))]) dX8_grow_55 (by rw [hn]; decide) rfl ?_
      refine j_aload_n C 57 5 dX8_grow_57 rfl rfl ?_
      refine j_get C 58 (ci := 8) hL rfl 0 (wm_o0 bd c Z L) 2 (by decide) f7 rfl (v := .ref (bd 1)) rfl dX8_grow_58 ?_
      refine j_iload_n C 61 6 dX8_grow_61 rfl rfl ?_
      refine j_iald C 62 1 0 (f := Z 1) (wm_a1 bd c Z L) rfl (by omega) (by decide) dX8_grow_62 ?_
      refine j_eqi (hE t htn).1 ?_
      refine j_iconst C 63 (v := nI 3) dX8_grow_63 rfl ?_
      refine j_icmp_ne_n C 64 165 (by omega) (by omega) dX8_grow_64 (by decide) (fun _ => ?_) (fun h => absurd h (by omega))
      refine j_aload_n C 165 5 dX8_grow_165 rfl rfl ?_
      refine j_get C 166 (ci := 8) hL rfl 0 (wm_o0 bd c Z L) 2 (by decide) f7 rfl (v := .ref (bd 1)) rfl dX8_grow_166 ?_
      refine j_iload_n C 169 6 dX8_grow_169 rfl rfl ?_
      refine j_iald C 170 1 0 (f := Z 1) (wm_a1 bd c Z L) rfl (by omega) (by decide) dX8_grow_170 ?_
      refine j_eqi (hE t htn).1 ?_
      refine j_iconst C 171 (v := nI 4) dX8_grow_171 rfl ?_
      refine j_icmp_ne_n C 172 237 (by omega) (by omega) dX8_grow_172 (by decide) (fun _ => ?_) (fun h => absurd h (by omega))
      refine j_aload_n C 237 5 dX8_grow_237 rfl rfl ?_
      refine j_get C 238 (ci := 8) hL rfl 0 (wm_o0 bd c Z L) 2 (by decide) f7 rfl (v := .ref (bd 1)) rfl dX8_grow_238 ?_
      refine j_iload_n C 241 6 dX8_grow_241 rfl rfl ?_
      refine j_iald C 242 1 0 (f := Z 1) (wm_a1 bd c Z L) rfl (by omega) (by decide) dX8_grow_242 ?_
      refine j_eqi (hE t htn).1 ?_
      refine j_bipush C 243 (v := nI 6) dX8_grow_243 rfl ?_
      refine j_icmp_eq_n C 245 267 (by omega) (by omega) dX8_grow_245 (by decide) (fun h => absurd h (by omega)) (fun _ => ?_)
      refine j_aload_n C 248 5 dX8_grow_248 rfl rfl ?_
      refine j_get C 249 (ci := 8) hL rfl 0 (wm_o0 bd c Z L) 2 (by decide) f7 rfl (v := .ref (bd 1)) rfl dX8_grow_249 ?_
      refine j_iload_n C 252 6 dX8_grow_252 rfl rfl ?_
      refine j_iald C 253 1 0 (f := Z 1) (wm_a1 bd c Z L) rfl (by omega) (by decide) dX8_grow_253 ?_
      refine j_eqi (hE t htn).1 ?_
      refine j_iconst C 254 (v := nI 5) dX8_grow_254 rfl ?_
      refine j_icmp_ne_n C 255 316 (by omega) (by omega) dX8_grow_255 (by decide) (fun h => absurd h (by omega)) (fun _ => ?_)
      refine j_aload_n C 258 5 dX8_grow_258 rfl rfl ?_
      refine j_get C 259 (ci := 8) hL rfl 0 (wm_o0 bd c Z L) 12 (by decide) f41 rfl (v := .ref (bd 11)) rfl dX8_grow_259 ?_
      refine j_iload_n C 262 6 dX8_grow_262 rfl rfl ?_
      refine j_iald C 263 11 0 (f := Z 11) (wm_a11 bd c Z L) rfl (by omega) (by decide) dX8_grow_263 ?_
      refine j_eqi ((hB t ht hk).trans (by rw [e]; first | done | rfl)) ?_
      refine j_if_lt C 264 316 dX8_grow_264 (by decide) (fun _ => ?_) (fun h => absurd (by decide) h)
      exact j_lv [2, 3, 4, 5, 6] rfl (j316 (false, 0, 0) (by rw [g_Fk5 hk, e]; rfl) _ rfl)
    | some k =>
      have hkP := (g_B_some hwf hr2 _ _ ht (Nat.le_refl _) e).2.2.2.1
      have hkn := g_P_lt hwf hr2 hkP
      refine j_aload_n C 0 0 dX8_grow_0 rfl rfl ?_
      refine j_get C 1 (ci := 8) hL rfl 0 (wm_o0 bd c Z L) 2 (by decide) f7 rfl (v := .ref (bd 1)) rfl dX8_grow_1 ?_
      refine j_iload_n C 4 1 dX8_grow_4 rfl rfl ?_
      refine j_iald C 5 1 0 (f := Z 1) (wm_a1 bd c Z L) rfl (by omega) (by decide) dX8_grow_5 ?_
      refine j_eqi (hE t htn).1 ?_
      refine j_if_ne_n C 6 13 (by omega) dX8_grow_6 (by decide) (fun _ => ?_) (fun h => absurd h (by omega))
      refine j_iconst C 13 (v := nI 0) dX8_grow_13 rfl ?_
      refine j_istore_n C 14 (lv' := [(2, .int (nI (0))), (0, .ref (bd 0)), (1, .int (nI (t)))]) dX8_grow_14 rfl (by rw [hn]; decide) rfl ?_
      refine j_aload_n C 15 1 dX8_grow_15 rfl rfl ?_
      refine j_get C 16 (ci := 8) hL rfl 0 (wm_o0 bd c Z L) 2 (by decide) f7 rfl (v := .ref (bd 1)) rfl dX8_grow_16 ?_
      refine j_iload_n C 19 2 dX8_grow_19 rfl rfl ?_
      refine j_iald C 20 1 0 (f := Z 1) (wm_a1 bd c Z L) rfl (by omega) (by decide) dX8_grow_20 ?_
      refine j_eqi (hE t htn).1 ?_
      refine j_iconst C 21 (v := nI 2) dX8_grow_21 rfl ?_
      refine j_icmp_ne_n C 22 36 (by omega) (by omega) dX8_grow_22 (by decide) (fun _ => ?_) (fun h => absurd h (by omega))
      refine j_iconst C 36 (v := nI 0) dX8_grow_36 rfl ?_
      refine j_istore_n C 37 (lv' := [(3, .int (nI (0))), (2, .int (nI (0))), (0, .ref (bd 0)), (1, .int (nI (t)))]) dX8_grow_37 rfl (by rw [hn]; decide) rfl ?_
      refine j_iconst C 38 (v := nI 0) dX8_grow_38 rfl ?_
      refine j_istore C 39 (lv' := [(4, .int (nI (0))), (3, .int (nI (0))), (2, .int (nI (0))), (0, .ref (bd 0)), (1, .int (nI (t)))]) dX8_grow_39 (by rw [hn]; decide) rfl ?_
      refine j_aload_n C 41 3 dX8_grow_41 rfl rfl ?_
      refine j_get C 42 (ci := 8) hL rfl 0 (wm_o0 bd c Z L) 4 (by decide) f16 rfl (v := .ref (bd 3)) rfl dX8_grow_42 ?_
      refine j_iload_n C 45 4 dX8_grow_45 rfl rfl ?_
      refine j_iald C 46 3 0 (f := Z 3) (wm_a3 bd c Z L) rfl (by omega) (by decide) dX8_grow_46 ?_
      refine j_istore C 47 (lv' := [(5, .int ((Z 3) (t))), (4, .int (nI (0))), (3, .int (nI (0))), (2, .int (nI (0))), (0, .ref (bd 0)), (1, .int (nI (t)))]) dX8_grow_47 (by rw [hn]; decide) rfl ?_
      refine j_aload_n C 49 4 dX8_grow_49 rfl rfl ?_
      refine j_get C 50 (ci := 8) hL rfl 0 (wm_o0 bd c Z L) 5 (by decide) f19 rfl (v := .ref (bd 4)) rfl dX8_grow_50 ?_
      refine j_iload_n C 53 5 dX8_grow_53 rfl rfl ?_
      refine j_iald C 54 4 0 (f := Z 4) (wm_a4 bd c Z L) rfl (by omega) (by decide) dX8_grow_54 ?_
      refine j_istore C 55 (lv' := [(6, .int ((Z 4) (t))), (5, .int ((Z 3) (t))), (4, .int (nI (0))), (3, .int (nI (0))), (2, .int (nI (0))), (0, .ref (bd 0)), (1, .int (nI (t)))]) dX8_grow_55 (by rw [hn]; decide) rfl ?_
      refine j_aload_n C 57 5 dX8_grow_57 rfl rfl ?_
      refine j_get C 58 (ci := 8) hL rfl 0 (wm_o0 bd c Z L) 2 (by decide) f7 rfl (v := .ref (bd 1)) rfl dX8_grow_58 ?_
      refine j_iload_n C 61 6 dX8_grow_61 rfl rfl ?_
      refine j_iald C 62 1 0 (f := Z 1) (wm_a1 bd c Z L) rfl (by omega) (by decide) dX8_grow_62 ?_
      refine j_eqi (hE t htn).1 ?_
      refine j_iconst C 63 (v := nI 3) dX8_grow_63 rfl ?_
      refine j_icmp_ne_n C 64 165 (by omega) (by omega) dX8_grow_64 (by decide) (fun _ => ?_) (fun h => absurd h (by omega))
      refine j_aload_n C 165 5 dX8_grow_165 rfl rfl ?_
      refine j_get C 166 (ci := 8) hL rfl 0 (wm_o0 bd c Z L) 2 (by decide) f7 rfl (v := .ref (bd 1)) rfl dX8_grow_166 ?_
      refine j_iload_n C 169 6 dX8_grow_169 rfl rfl ?_
      refine j_iald C 170 1 0 (f := Z 1) (wm_a1 bd c Z L) rfl (by omega) (by decide) dX8_grow_170 ?_
      refine j_eqi (hE t htn).1 ?_
      refine j_iconst C 171 (v := nI 4) dX8_grow_171 rfl ?_
      refine j_icmp_ne_n C 172 237 (by omega) (by omega) dX8_grow_172 (by decide) (fun _ => ?_) (fun h => absurd h (by omega))
      refine j_aload_n C 237 5 dX8_grow_237 rfl rfl ?_
      refine j_get C 238 (ci := 8) hL rfl 0 (wm_o0 bd c Z L) 2 (by decide) f7 rfl (v := .ref (bd 1)) rfl dX8_grow_238 ?_
      refine j_iload_n C 241 6 dX8_grow_241 rfl rfl ?_
      refine j_iald C 242 1 0 (f := Z 1) (wm_a1 bd c Z L) rfl (by omega) (by decide) dX8_grow_242 ?_
      refine j_eqi (hE t htn).1 ?_
      refine j_bipush C 243 (v := nI 6) dX8_grow_243 rfl ?_
      refine j_icmp_eq_n C 245 267 (by omega) (by omega) dX8_grow_245 (by decide) (fun h => absurd h (by omega)) (fun _ => ?_)
      refine j_aload_n C 248 5 dX8_grow_248 rfl rfl ?_
      refine j_get C 249 (ci := 8) hL rfl 0 (wm_o0 bd c Z L) 2 (by decide) f7 rfl (v := .ref (bd 1)) rfl dX8_grow_249 ?_
      refine j_iload_n C 252 6 dX8_grow_252 rfl rfl ?_
      refine j_iald C 253 1 0 (f := Z 1) (wm_a1 bd c Z L) rfl (by omega) (by decide) dX8_grow_253 ?_
      refine j_eqi (hE t htn).1 ?_
      refine j_iconst C 254 (v := nI 5) dX8_grow_254 rfl ?_
      refine j_icmp_ne_n C 255 316 (by omega) (by omega) dX8_grow_255 (by decide) (fun h => absurd h (by omega)) (fun _ => ?_)
      refine j_aload_n C 258 5 dX8_grow_258 rfl rfl ?_
      refine j_get C 259 (ci := 8) hL rfl 0 (wm_o0 bd c Z L) 12 (by decide) f41 rfl (v := .ref (bd 11)) rfl dX8_grow_259 ?_
      refine j_iload_n C 262 6 dX8_grow_262 rfl rfl ?_
      refine j_iald C 263 11 0 (f := Z 11) (wm_a11 bd c Z L) rfl (by omega) (by decide) dX8_grow_263 ?_
      refine j_eqi ((hB t ht hk).trans (by rw [e]; first | done | rfl)) ?_
      refine j_if_lt_n C 264 316 (by omega) dX8_grow_264 (by decide) (fun h => absurd h (by omega)) (fun _ => ?_)
      refine j_aload_n C 267 5 dX8_grow_267 rfl rfl ?_
      refine j_get C 268 (ci := 8) hL rfl 0 (wm_o0 bd c Z L) 2 (by decide) f7 rfl (v := .ref (bd 1)) rfl dX8_grow_268 ?_
      refine j_iload_n C 271 6 dX8_grow_271 rfl rfl ?_
      refine j_iald C 272 1 0 (f := Z 1) (wm_a1 bd c Z L) rfl (by omega) (by decide) dX8_grow_272 ?_
      refine j_eqi (hE t htn).1 ?_
      refine j_bipush C 273 (v := nI 6) dX8_grow_273 rfl ?_
      refine j_icmp_ne_n C 275 283 (by omega) (by omega) dX8_grow_275 (by decide) (fun _ => ?_) (fun h => absurd h (by omega))
      refine j_aload_n C 283 5 dX8_grow_283 rfl rfl ?_
      refine j_get C 284 (ci := 8) hL rfl 0 (wm_o0 bd c Z L) 12 (by decide) f41 rfl (v := .ref (bd 11)) rfl dX8_grow_284 ?_
      refine j_iload_n C 287 6 dX8_grow_287 rfl rfl ?_
      refine j_iald C 288 11 0 (f := Z 11) (wm_a11 bd c Z L) rfl (by omega) (by decide) dX8_grow_288 ?_
      refine j_eqi ((hB t ht hk).trans (by rw [e]; first | done | rfl)) ?_
      refine j_istore C 289 (lv' := [(7, .int (nI (k))), (6, .int ((Z 4) (t))), (5, .int ((Z 3) (t))), (4, .int (nI (0))), (3, .int (nI (0))), (2, .int (nI (0))), (0, .ref (bd 0)), (1, .int (nI (t)))]) dX8_grow_289 (by rw [hn]; decide) rfl ?_
      refine j_aload_n C 291 6 dX8_grow_291 rfl rfl ?_
      refine j_get C 292 (ci := 8) hL rfl 0 (wm_o0 bd c Z L) 8 (by decide) f28 rfl (v := .ref (bd 7)) rfl dX8_grow_292 ?_
      refine j_iload C 295 0 dX8_grow_295 rfl ?_
      refine j_zald C 297 7 1 (f := Z 7) (wm_a7 bd c Z L) rfl (by omega) (by decide) dX8_grow_297 ?_
      refine j_eqi (hY _ hkP).1 ?_
      refine j_istore_n C 298 (lv' := [(2, .int (b2 (g_nu S (k)))), (7, .int (nI (k))), (6, .int ((Z 4) (t))), (5, .int ((Z 3) (t))), (4, .int (nI (0))), (3, .int (nI (0))), (0, .ref (bd 0)), (1, .int (nI (t)))]) dX8_grow_298 rfl (by rw [hn]; decide) rfl ?_
      refine j_aload_n C 299 6 dX8_grow_299 rfl rfl ?_
      refine j_get C 300 (ci := 8) hL rfl 0 (wm_o0 bd c Z L) 9 (by decide) f32 rfl (v := .ref (bd 8)) rfl dX8_grow_300 ?_
      refine j_iload C 303 1 dX8_grow_303 rfl ?_
      refine j_iald C 305 8 0 (f := Z 8) (wm_a8 bd c Z L) rfl (by omega) (by decide) dX8_grow_305 ?_
      refine j_eqi (hY _ hkP).2.1 ?_
      refine j_istore_n C 306 (lv' := [(3, .int (nI (g_fi S (k)))), (2, .int (b2 (g_nu S (k)))), (7, .int (nI (k))), (6, .int ((Z 4) (t))), (5, .int ((Z 3) (t))), (4, .int (nI (0))), (0, .ref (bd 0)), (1, .int (nI (t)))]) dX8_grow_306 rfl (by rw [hn]; decide) rfl ?_
      refine j_aload_n C 307 6 dX8_grow_307 rfl rfl ?_
      refine j_get C 308 (ci := 8) hL rfl 0 (wm_o0 bd c Z L) 10 (by decide) f35 rfl (v := .ref (bd 9)) rfl dX8_grow_308 ?_
      refine j_iload C 311 2 dX8_grow_311 rfl ?_
      refine j_iald C 313 9 0 (f := Z 9) (wm_a9 bd c Z L) rfl (by omega) (by decide) dX8_grow_313 ?_
      refine j_eqi (hY _ hkP).2.2.1 ?_
      refine j_istore C 314 (lv' := [(4, .int (nI (g_af S (k)))), (3, .int (nI (g_fi S (k)))), (2, .int (b2 (g_nu S (k)))), (7, .int (nI (k))), (6, .int ((Z 4) (t))), (5, .int ((Z 3) (t))), (0, .ref (bd 0)), (1, .int (nI (t)))]) dX8_grow_314 (by rw [hn]; decide) rfl ?_
      exact j_lv [0, 1, 2, 6, 7] rfl (j316 (g_nu S (k), g_fi S (k), g_af S (k)) (by rw [g_Fk5 hk, e]; rfl) _ rfl)
  · have hlP := g_lfP hwf hr2 ht (by omega)
    refine j_aload_n C 0 0 dX8_grow_0 rfl rfl ?_
    refine j_get C 1 (ci := 8) hL rfl 0 (wm_o0 bd c Z L) 2 (by decide) f7 rfl (v := .ref (bd 1)) rfl dX8_grow_1 ?_
    refine j_iload_n C 4 1 dX8_grow_4 rfl rfl ?_
    refine j_iald C 5 1 0 (f := Z 1) (wm_a1 bd c Z L) rfl (by omega) (by decide) dX8_grow_5 ?_
    refine j_eqi (hE t htn).1 ?_
    refine j_if_ne_n C 6 13 (by omega) dX8_grow_6 (by decide) (fun _ => ?_) (fun h => absurd h (by omega))
    refine j_iconst C 13 (v := nI 0) dX8_grow_13 rfl ?_
    refine j_istore_n C 14 (lv' := [(2, .int (nI (0))), (0, .ref (bd 0)), (1, .int (nI (t)))]) dX8_grow_14 rfl (by rw [hn]; decide) rfl ?_
    refine j_aload_n C 15 1 dX8_grow_15 rfl rfl ?_
    refine j_get C 16 (ci := 8) hL rfl 0 (wm_o0 bd c Z L) 2 (by decide) f7 rfl (v := .ref (bd 1)) rfl dX8_grow_16 ?_
    refine j_iload_n C 19 2 dX8_grow_19 rfl rfl ?_
    refine j_iald C 20 1 0 (f := Z 1) (wm_a1 bd c Z L) rfl (by omega) (by decide) dX8_grow_20 ?_
    refine j_eqi (hE t htn).1 ?_
    refine j_iconst C 21 (v := nI 2) dX8_grow_21 rfl ?_
    refine j_icmp_ne_n C 22 36 (by omega) (by omega) dX8_grow_22 (by decide) (fun _ => ?_) (fun h => absurd h (by omega))
    refine j_iconst C 36 (v := nI 0) dX8_grow_36 rfl ?_
    refine j_istore_n C 37 (lv' := [(3, .int (nI (0))), (2, .int (nI (0))), (0, .ref (bd 0)), (1, .int (nI (t)))]) dX8_grow_37 rfl (by rw [hn]; decide) rfl ?_
    refine j_iconst C 38 (v := nI 0) dX8_grow_38 rfl ?_
    refine j_istore C 39 (lv' := [(4, .int (nI (0))), (3, .int (nI (0))), (2, .int (nI (0))), (0, .ref (bd 0)), (1, .int (nI (t)))]) dX8_grow_39 (by rw [hn]; decide) rfl ?_
    refine j_aload_n C 41 3 dX8_grow_41 rfl rfl ?_
    refine j_get C 42 (ci := 8) hL rfl 0 (wm_o0 bd c Z L) 4 (by decide) f16 rfl (v := .ref (bd 3)) rfl dX8_grow_42 ?_
    refine j_iload_n C 45 4 dX8_grow_45 rfl rfl ?_
    refine j_iald C 46 3 0 (f := Z 3) (wm_a3 bd c Z L) rfl (by omega) (by decide) dX8_grow_46 ?_
    refine j_eqi (g_EM_lf hE htn (by omega)) ?_
    refine j_istore C 47 (lv' := [(5, .int (nI (g_lf τ t))), (4, .int (nI (0))), (3, .int (nI (0))), (2, .int (nI (0))), (0, .ref (bd 0)), (1, .int (nI (t)))]) dX8_grow_47 (by rw [hn]; decide) rfl ?_
    refine j_aload_n C 49 4 dX8_grow_49 rfl rfl ?_
    refine j_get C 50 (ci := 8) hL rfl 0 (wm_o0 bd c Z L) 5 (by decide) f19 rfl (v := .ref (bd 4)) rfl dX8_grow_50 ?_
    refine j_iload_n C 53 5 dX8_grow_53 rfl rfl ?_
    refine j_iald C 54 4 0 (f := Z 4) (wm_a4 bd c Z L) rfl (by omega) (by decide) dX8_grow_54 ?_
    refine j_istore C 55 (lv' := [(6, .int ((Z 4) (t))), (5, .int (nI (g_lf τ t))), (4, .int (nI (0))), (3, .int (nI (0))), (2, .int (nI (0))), (0, .ref (bd 0)), (1, .int (nI (t)))]) dX8_grow_55 (by rw [hn]; decide) rfl ?_
    refine j_aload_n C 57 5 dX8_grow_57 rfl rfl ?_
    refine j_get C 58 (ci := 8) hL rfl 0 (wm_o0 bd c Z L) 2 (by decide) f7 rfl (v := .ref (bd 1)) rfl dX8_grow_58 ?_
    refine j_iload_n C 61 6 dX8_grow_61 rfl rfl ?_
    refine j_iald C 62 1 0 (f := Z 1) (wm_a1 bd c Z L) rfl (by omega) (by decide) dX8_grow_62 ?_
    refine j_eqi (hE t htn).1 ?_
    refine j_iconst C 63 (v := nI 3) dX8_grow_63 rfl ?_
    refine j_icmp_ne_n C 64 165 (by omega) (by omega) dX8_grow_64 (by decide) (fun _ => ?_) (fun h => absurd h (by omega))
    refine j_aload_n C 165 5 dX8_grow_165 rfl rfl ?_
    refine j_get C 166 (ci := 8) hL rfl 0 (wm_o0 bd c Z L) 2 (by decide) f7 rfl (v := .ref (bd 1)) rfl dX8_grow_166 ?_
    refine j_iload_n C 169 6 dX8_grow_169 rfl rfl ?_
    refine j_iald C 170 1 0 (f := Z 1) (wm_a1 bd c Z L) rfl (by omega) (by decide) dX8_grow_170 ?_
    refine j_eqi (hE t htn).1 ?_
    refine j_iconst C 171 (v := nI 4) dX8_grow_171 rfl ?_
    refine j_icmp_ne_n C 172 237 (by omega) (by omega) dX8_grow_172 (by decide) (fun _ => ?_) (fun h => absurd h (by omega))
    refine j_aload_n C 237 5 dX8_grow_237 rfl rfl ?_
    refine j_get C 238 (ci := 8) hL rfl 0 (wm_o0 bd c Z L) 2 (by decide) f7 rfl (v := .ref (bd 1)) rfl dX8_grow_238 ?_
    refine j_iload_n C 241 6 dX8_grow_241 rfl rfl ?_
    refine j_iald C 242 1 0 (f := Z 1) (wm_a1 bd c Z L) rfl (by omega) (by decide) dX8_grow_242 ?_
    refine j_eqi (hE t htn).1 ?_
    refine j_bipush C 243 (v := nI 6) dX8_grow_243 rfl ?_
    refine j_icmp_eq_n C 245 267 (by omega) (by omega) dX8_grow_245 (by decide) (fun _ => ?_) (fun h => absurd h (by omega))
    refine j_aload_n C 267 5 dX8_grow_267 rfl rfl ?_
    refine j_get C 268 (ci := 8) hL rfl 0 (wm_o0 bd c Z L) 2 (by decide) f7 rfl (v := .ref (bd 1)) rfl dX8_grow_268 ?_
    refine j_iload_n C 271 6 dX8_grow_271 rfl rfl ?_
    refine j_iald C 272 1 0 (f := Z 1) (wm_a1 bd c Z L) rfl (by omega) (by decide) dX8_grow_272 ?_
    refine j_eqi (hE t htn).1 ?_
    refine j_bipush C 273 (v := nI 6) dX8_grow_273 rfl ?_
    refine j_icmp_ne_n C 275 283 (by omega) (by omega) dX8_grow_275 (by decide) (fun h => absurd h (by omega)) (fun _ => ?_)
    refine j_iload C 278 1 dX8_grow_278 rfl ?_
    refine j_goto C 280 289 dX8_grow_280 (by decide) ?_
    refine j_istore C 289 (lv' := [(7, .int (nI (g_lf τ t))), (6, .int ((Z 4) (t))), (5, .int (nI (g_lf τ t))), (4, .int (nI (0))), (3, .int (nI (0))), (2, .int (nI (0))), (0, .ref (bd 0)), (1, .int (nI (t)))]) dX8_grow_289 (by rw [hn]; decide) rfl ?_
    refine j_aload_n C 291 6 dX8_grow_291 rfl rfl ?_
    refine j_get C 292 (ci := 8) hL rfl 0 (wm_o0 bd c Z L) 8 (by decide) f28 rfl (v := .ref (bd 7)) rfl dX8_grow_292 ?_
    refine j_iload C 295 0 dX8_grow_295 rfl ?_
    refine j_zald C 297 7 1 (f := Z 7) (wm_a7 bd c Z L) rfl (by omega) (by decide) dX8_grow_297 ?_
    refine j_eqi (hY _ hlP.1).1 ?_
    refine j_istore_n C 298 (lv' := [(2, .int (b2 (g_nu S (g_lf τ t)))), (7, .int (nI (g_lf τ t))), (6, .int ((Z 4) (t))), (5, .int (nI (g_lf τ t))), (4, .int (nI (0))), (3, .int (nI (0))), (0, .ref (bd 0)), (1, .int (nI (t)))]) dX8_grow_298 rfl (by rw [hn]; decide) rfl ?_
    refine j_aload_n C 299 6 dX8_grow_299 rfl rfl ?_
    refine j_get C 300 (ci := 8) hL rfl 0 (wm_o0 bd c Z L) 9 (by decide) f32 rfl (v := .ref (bd 8)) rfl dX8_grow_300 ?_
    refine j_iload C 303 1 dX8_grow_303 rfl ?_
    refine j_iald C 305 8 0 (f := Z 8) (wm_a8 bd c Z L) rfl (by omega) (by decide) dX8_grow_305 ?_
    refine j_eqi (hY _ hlP.1).2.1 ?_
    refine j_istore_n C 306 (lv' := [(3, .int (nI (g_fi S (g_lf τ t)))), (2, .int (b2 (g_nu S (g_lf τ t)))), (7, .int (nI (g_lf τ t))), (6, .int ((Z 4) (t))), (5, .int (nI (g_lf τ t))), (4, .int (nI (0))), (0, .ref (bd 0)), (1, .int (nI (t)))]) dX8_grow_306 rfl (by rw [hn]; decide) rfl ?_
    refine j_aload_n C 307 6 dX8_grow_307 rfl rfl ?_
    refine j_get C 308 (ci := 8) hL rfl 0 (wm_o0 bd c Z L) 10 (by decide) f35 rfl (v := .ref (bd 9)) rfl dX8_grow_308 ?_
    refine j_iload C 311 2 dX8_grow_311 rfl ?_
    refine j_iald C 313 9 0 (f := Z 9) (wm_a9 bd c Z L) rfl (by omega) (by decide) dX8_grow_313 ?_
    refine j_eqi (hY _ hlP.1).2.2.1 ?_
    refine j_istore C 314 (lv' := [(4, .int (nI (g_af S (g_lf τ t)))), (3, .int (nI (g_fi S (g_lf τ t)))), (2, .int (b2 (g_nu S (g_lf τ t)))), (7, .int (nI (g_lf τ t))), (6, .int ((Z 4) (t))), (5, .int (nI (g_lf τ t))), (0, .ref (bd 0)), (1, .int (nI (t)))]) dX8_grow_314 (by rw [hn]; decide) rfl ?_
    exact j_lv [0, 1, 2, 6, 7] rfl (j316 (g_nu S (g_lf τ t), g_fi S (g_lf τ t), g_af S (g_lf τ t)) (by rw [g_Fk6 hk]) _ rfl)
