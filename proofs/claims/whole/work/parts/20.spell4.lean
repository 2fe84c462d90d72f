/-! contracts: Speller.startPile, spell -/
set_option maxHeartbeats 4000000 in
set_option maxRecDepth 100000 in
theorem c_X1_startPile (ll : Launch) (D : va_G) (ad ro : Nat → Nat) (c : Nat → ClassId) (Z : ZT) (L : LT) {n : Nat} {τ : Tb} (root m : Nat) (hwf : g_WF n τ) (hr2 : root < n) (hCN : g_CN τ root (m + 1) (vD L)) (hm16 : m ≤ 16) : cV (S := ZT × LT) ll yX1_startPile vsX1_startPile ({ frames := 2, cells := 0, slots := 0, locals := 61 } : Room) D (tysG c) [.ref (ad 8), .int (nI (root)), .int (nI (m))] (wd ad ro c Z L) (fun u => wd ad ro c u.1 u.2) (fun u => g_ar (u.1 24) 0 [root] ∧ u.1 48 0 = nI 1 ∧ g_WY τ root [root] m (u.2 28) ∧ g_fr [24, 48] Z u.1 ∧ g_fl [28] L u.2) 0 0 := by
  refine cV_start (cc := cX1_startPile) (maxL := 4) RX1 rfl (by decide +kernel) rfl (Nat.le_of_ble_eq_true rfl) ?_
  intro κ hlκ C hr _ E hR hn
  subst hlκ
  have hL : ∀ w ∈ u_ws RX1 TX1 9, w.before (ja κ) (js κ) = true := fun w h => C.t w (mX1_startPile_wsX10 w h)
  have f19 : (Cond.fieldLink RX1 19 "GuardedGrammar$Speller" (TX1 5).2.1 (TX1 5).2.2.1).before (ja κ) (js κ) = true := C.t (.fieldLink RX1 19 "GuardedGrammar$Speller" "ways" "[J") (mX1_startPile_o _ (by decide +kernel))
  have f15 : (Cond.fieldLink RX1 15 "GuardedGrammar$Speller" (TX1 4).2.1 (TX1 4).2.2.1).before (ja κ) (js κ) = true := C.t (.fieldLink RX1 15 "GuardedGrammar$Speller" "height" "I") (mX1_startPile_o _ (by decide +kernel))
  show J D κ 0 0 0 [(0, .ref (ad 8)), (1, .int (nI (root))), (2, .int (nI (m)))] [] (wd ad ro c Z L)
  have h48n := hwf.1
  have loop : ∀ q i (f : Nat → Int64), q + i = m + 1 → (∀ j, j < i → f j = lN (g_d0 j)) → ∀ lv, lv_pick lv [0, 1, 2, 3] = [(3, .int (nI i)), (0, .ref (ad 8)), (1, .int (nI root)), (2, .int (nI m))] → J D κ 0 0 2 lv [] (wd ad ro c Z (upR L 28 f)) := by
    intro q
    induction q with
    | zero =>
      intro i f hq hf lv hlv
      obtain rfl : i = m + 1 := by omega
      refine j_lv [0, 1, 2, 3] hlv ?_
      refine j_iload_n C 2 0 dX1_startPile_2 rfl rfl ?_
      refine j_iload_n C 3 3 dX1_startPile_3 rfl rfl ?_
      refine j_icmp_gt_n C 4 28 (by omega) (by omega) dX1_startPile_4 (by decide) (fun _ => ?_) (fun h => absurd h (by omega))
      refine j_aload_n C 28 1 dX1_startPile_28 rfl rfl ?_
      refine j_iconst C 29 (v := nI 0) dX1_startPile_29 rfl ?_
      refine j_put C 30 (ci := 1) hL tyX1_ok nmX1 rfl 8 (wd_o8 ad ro c Z (upR L 28 f)) 4 (by decide) f15 rfl rfl (tyX1_ok 4 (by decide)) rfl rfl (Nat.le_of_ble_eq_true rfl) (wd_p48 ad ro c Z (upR L 28 f) (nI (0))) dX1_startPile_30 ?_
      refine j_aload_n C 33 1 dX1_startPile_33 rfl rfl ?_
      refine j_iload_n C 34 2 dX1_startPile_34 rfl rfl ?_
      refine j_iload_n C 35 3 dX1_startPile_35 rfl rfl ?_
      refine j_callV (mc := 0) (ms := 0) C 36 (c_X1_pileUp (jl κ) D ad ro c (upR Z 48 (fun _ => nI (0))) (upR L 28 f) [] root m hwf hr2 g_ar_nil rfl (by decide) (fun h hh j hj => by have e : h = 0 := Nat.le_zero.mp hh; subst e; show f (0 * 17 + j) = _; rw [Nat.zero_mul, Nat.zero_add, hf j (by omega)]; rfl) (fun u hu j hj => by show upR L 28 f (100 + u) j = _; rw [upR_ne _ _ (by omega)]; exact hCN u hu j hj) (g_P_self hwf hr2) hm16) gX1_startPile_X1_pileUp rfl rfl rfl hd_X1_pileUp (by rw [hR]; exact ⟨Nat.le_of_ble_eq_true rfl, Nat.le_of_ble_eq_true rfl⟩) (ci := 1) rfl 8 (wd_o8 ad ro c (upR Z 48 (fun _ => nI (0))) (upR L 28 f)) rfl (Nat.le_of_ble_eq_true rfl) ⟨Nat.zero_le _, Nat.zero_le _⟩ dX1_startPile_36 (fun f36 q36 => ?_)
      refine j_ws (ws' := wd ad ro c (upR (upR (upR Z 48 (fun _ => nI (0))) 24 (upd ((upR Z 48 (fun _ => nI (0))) 24) ([] : List Nat).length (nI root))) 48 (fun _ => nI (([] : List Nat).length + 1))) (upR L 28 f36)) (by rw [upR_upR]) ?_
      exact j_vreti C hr E (Nat.le_refl _) (Nat.le_refl _) ((upR (upR (upR Z 48 (fun _ => nI (0))) 24 (upd ((upR Z 48 (fun _ => nI (0))) 24) ([] : List Nat).length (nI root))) 48 (fun _ => nI (([] : List Nat).length + 1))), upR L 28 f36) ⟨g_ar_push (l := []) g_ar_nil rfl, rfl, q36, g_fr_up (g_fr_up (g_fr_up g_fr_rfl (by decide) _) (by decide) _) (by decide) _, g_fl_up g_fl_rfl (by decide) _⟩ rfl dX1_startPile_39
    | succ q ih =>
      intro i f hq hf lv hlv
      refine j_lv [0, 1, 2, 3] hlv ?_
      refine j_iload_n C 2 0 dX1_startPile_2 rfl rfl ?_
      refine j_iload_n C 3 3 dX1_startPile_3 rfl rfl ?_
      refine j_icmp_gt_n C 4 28 (by omega) (by omega) dX1_startPile_4 (by decide) (fun h => absurd h (by omega)) (fun _ => ?_)
      refine j_aload_n C 7 1 dX1_startPile_7 rfl rfl ?_
      refine j_get C 8 (ci := 1) hL rfl 8 (wd_o8 ad ro c Z (upR L 28 f)) 5 (by decide) f19 rfl (v := .ref (ad 28)) rfl dX1_startPile_8 ?_
      refine j_iload_n C 11 0 dX1_startPile_11 rfl rfl ?_
      refine j_iload_n C 12 0 dX1_startPile_12 rfl rfl ?_
      refine j_if_ne_n C 13 20 (by omega) dX1_startPile_13 (by decide) (fun h13 => ?_) (fun h13 => ?_)
      · refine j_lconst C 20 (v := lN 0) dX1_startPile_20 rfl ?_
        refine j_last C 21 28 2 (f := f) (wd_a28 ad ro c Z (upR L 28 f)) rfl (by omega) (by decide) (wd_s28 ad ro c Z (upR L 28 f) (vp_updL (f) (i) (lN 0))) dX1_startPile_21 ?_
        refine j_iinc C 22 0 (v := (nI (i + 1))) (lv' := [(3, .int (nI (i + 1))), (0, .ref (ad 8)), (1, .int (nI (root))), (2, .int (nI (m)))]) dX1_startPile_22 rfl (nI_add (i) 1) (by rw [hn]; decide) rfl ?_
        refine j_goto C 25 2 dX1_startPile_25 (by decide) ?_
        refine j_ws (ws' := wd ad ro c Z (upR L 28 (vp_updL f i (lN 0)))) (by rw [upR_upR]) ?_
        refine ih (i + 1) _ (by omega) (fun j hj => ?_) _ rfl
        by_cases e : j = i
        · rw [e, pk_uLs]; show lN 0 = lN (if i = 0 then 1 else 0); rw [if_neg h13]
        · rw [pk_uLn e]; exact hf j (by omega)
      · refine j_lconst C 16 (v := lN 1) dX1_startPile_16 rfl ?_
        refine j_goto C 17 21 dX1_startPile_17 (by decide) ?_
        refine j_last C 21 28 2 (f := f) (wd_a28 ad ro c Z (upR L 28 f)) rfl (by omega) (by decide) (wd_s28 ad ro c Z (upR L 28 f) (vp_updL (f) (i) (lN 1))) dX1_startPile_21 ?_
        refine j_iinc C 22 0 (v := (nI (i + 1))) (lv' := [(3, .int (nI (i + 1))), (0, .ref (ad 8)), (1, .int (nI (root))), (2, .int (nI (m)))]) dX1_startPile_22 rfl (nI_add (i) 1) (by rw [hn]; decide) rfl ?_
        refine j_goto C 25 2 dX1_startPile_25 (by decide) ?_
        refine j_ws (ws' := wd ad ro c Z (upR L 28 (vp_updL f i (lN 1)))) (by rw [upR_upR]) ?_
        refine ih (i + 1) _ (by omega) (fun j hj => ?_) _ rfl
        by_cases e : j = i
        · rw [e, pk_uLs]; show lN 1 = lN (if i = 0 then 1 else 0); rw [if_pos h13]
        · rw [pk_uLn e]; exact hf j (by omega)
  refine j_iconst C 0 (v := nI 0) dX1_startPile_0 rfl ?_
  refine j_istore_n C 1 (lv' := [(3, .int (nI (0))), (0, .ref (ad 8)), (1, .int (nI (root))), (2, .int (nI (m)))]) dX1_startPile_1 rfl (by rw [hn]; decide) rfl ?_
  refine j_ws (ws' := wd ad ro c Z (upR L 28 (L 28))) (by rw [upR_self]) ?_
  exact j_lv [0, 1, 2, 3] rfl (loop (m + 1) 0 (L 28) rfl (fun j hj => by omega) _ rfl)
set_option maxHeartbeats 4000000 in
set_option maxRecDepth 100000 in
theorem c_X1_spell (ll : Launch) (D : va_G) (ad ro : Nat → Nat) (c : Nat → ClassId) (Z : ZT) (L : LT) {n : Nat} {τ : Tb} (root m l : Nat) (hwf : g_WF n τ) (hr2 : root < n) (hE : g_ED n τ Z) (hST : g_ST τ root Z) (hT : g_TY τ root (g_T τ root)) (hm16 : m ≤ 16) (hCN : g_CN τ root (m + 1) (vD L)) (hl : l < g_c τ root root m) : cV (S := ZT × LT) ll yX1_spell vsX1_spell ({ frames := 5, cells := 0, slots := 0, locals := 121 } : Room) D (tysG c) [.ref (ad 8), .int (nI (root)), .int (nI (m)), .long (lN l), .ref (ad 3)] (wd ad ro c Z L) (fun u => wd ad ro c u.1 u.2) (fun u => g_WD (g_sw τ root (g_T τ root) m [root] l) (u.1 42 0) (u.1 22) ∧ g_fr [22, 24, 25, 42, 48, 49] Z u.1 ∧ g_fl [28, 29] L u.2) 0 0 := by
  refine cV_start (cc := cX1_spell) (maxL := 9) RX1 rfl (by decide +kernel) rfl (Nat.le_of_ble_eq_true rfl) ?_
  intro κ hlκ C hr _ E hR hn
  subst hlκ
  show J D κ 0 0 0 [(0, .ref (ad 8)), (1, .int (nI (root))), (2, .int (nI (m))), (3, .long (lN l)), (5, .ref (ad 3))] [] (wd ad ro c Z L)
  have h48n := hwf.1
  have loop : ∀ k (π w : List Nat) l1 v (Z1 : ZT) (L1 : LT), k ≤ m → w.length = m - k → w ++ g_sw τ root (g_T τ root) k π.reverse l1 = g_sw τ root (g_T τ root) m [root] l → l1 < g_N τ root π.reverse k → g_I τ root (g_T τ root) π.reverse (m - k) v → g_SP τ root k w π Z1 L1 → g_fr [22, 24, 25, 42, 48, 49] Z Z1 → g_fl [28, 29] L L1 → ∀ lv, lv_pick lv [0, 1, 2, 3, 4, 5] = [(8, .int (nI k + -1)), (6, .long (lN l1)), (0, .ref (ad 8)), (1, .int (nI (root))), (2, .int (nI (m))), (5, .ref (ad 3))] → J D κ 0 0 20 lv [] (wd ad ro c Z1 L1) := by
    intro k
    induction k with
    | zero =>
      intro π w l1 v Z1 L1 hk hwl hw hl1 hI hSP hfr hfl lv hlv
      have hww : w = g_sw τ root (g_T τ root) m [root] l := by rw [← hw]; exact (List.append_nil w).symm
      refine j_lv [0, 1, 2, 3, 4, 5] hlv ?_
      refine j_iload C 20 0 dX1_spell_20 rfl ?_
      refine j_eqi (y := -1) (by decide) ?_
      refine j_if_lt C 22 43 dX1_spell_22 (by decide) (fun _ => ?_) (fun h => absurd (by decide) h)
      exact j_vreti C hr E (Nat.le_refl _) (Nat.le_refl _) (Z1, L1) ⟨by rw [← hww]; exact hSP.2.2.2, hfr, hfl⟩ rfl dX1_spell_43
    | succ k ih =>
      intro π w l1 v Z1 L1 hk hwl hw hl1 hI hSP hfr hfl lv hlv
      rw [pk_m1] at hlv
      refine j_lv [0, 1, 2, 3, 4, 5] hlv ?_
      have hE1 : g_ED n τ Z1 := g_ED_fr hfr (by decide) hE
      have hST1 : g_ST τ root Z1 := g_ST_fr hfr (by decide) hST
      have hCN1 : g_CN τ root (k + 1) (vD L1) := fun u hu j hj => by
        show L1 (100 + u) j = _
        rw [hfl (100 + u) (by simp; omega)]
        exact hCN u hu j (by omega)
      have hpk := g_pk_ok hwf hr2 hT hI.1 hI.2.1 hl1
      have hIr := g_I_run hwf hr2 hT _ _ hI.1 _ v hI hpk.2.1
      rw [show g_sw τ root (g_T τ root) (k + 1) π.reverse l1 = (g_pk (fun x => g_Nx τ root (g_T τ root) x π.reverse k) 8 0 l1).1 :: g_sw τ root (g_T τ root) k (g_run τ root (g_T τ root) (g_pk (fun x => g_Nx τ root (g_T τ root) x π.reverse k) 8 0 l1).1 π.reverse).2 (g_pk (fun x => g_Nx τ root (g_T τ root) x π.reverse k) 8 0 l1).2 from rfl] at hw
      refine j_iload C 20 0 dX1_spell_20 rfl ?_
      refine j_if_lt_n C 22 43 (by omega) dX1_spell_22 (by decide) (fun h => absurd h (by omega)) (fun _ => ?_)
      refine j_aload_n C 25 2 dX1_spell_25 rfl rfl ?_
      refine j_iload C 26 0 dX1_spell_26 rfl ?_
      refine j_lload C 28 1 dX1_spell_28 rfl ?_
      refine j_aload C 30 5 dX1_spell_30 rfl ?_
      refine j_callL (mc := 0) (ms := 0) C 32 (c_X1_spellNext (jl κ) D ad ro c Z1 L1 π w k l1 (m - (k + 1)) v hwf hr2 hE1 hST1 hT (by omega) ⟨hSP.1, hSP.2.1, g_WY_le hSP.2.2.1 (Nat.le_succ k), hSP.2.2.2⟩ (by omega) hCN1 hI (by omega) hl1) gX1_spell_X1_spellNext rfl rfl rfl hd_X1_spellNext (by rw [hR]; exact ⟨Nat.le_of_ble_eq_true rfl, Nat.le_of_ble_eq_true rfl⟩) (ci := 1) rfl 8 (wd_o8 ad ro c Z1 L1) rfl (Nat.le_of_ble_eq_true rfl) ⟨Nat.zero_le _, Nat.zero_le _⟩ dX1_spell_32 (fun r32 u32 q32 => ?_)
      obtain ⟨e32, hSP2, hfr2, hfl2⟩ := q32
      subst e32
      refine j_lstore C 35 (lv' := [(6, .long (lN (g_pk (fun x => g_Nx τ root (g_T τ root) x π.reverse k) 8 0 l1).2)), (8, .int (nI (k))), (0, .ref (ad 8)), (1, .int (nI (root))), (2, .int (nI (m))), (5, .ref (ad 3))]) dX1_spell_35 (by rw [hn]; decide) rfl ?_
      refine j_iinc C 37 1 (v := nI k + -1) (lv' := [(8, .int (nI k + -1)), (6, .long (lN (g_pk (fun x => g_Nx τ root (g_T τ root) x π.reverse k) 8 0 l1).2)), (0, .ref (ad 8)), (1, .int (nI (root))), (2, .int (nI (m))), (5, .ref (ad 3))]) dX1_spell_37 rfl rfl (by rw [hn]; decide) rfl ?_
      refine j_goto C 40 20 dX1_spell_40 (by decide) ?_
      obtain ⟨⟨v2, hI2⟩, -⟩ := hIr
      exact j_lv [0, 1, 2, 3, 4, 5] rfl (ih _ (w ++ [(g_pk (fun x => g_Nx τ root (g_T τ root) x π.reverse k) 8 0 l1).1]) _ v2 u32.1 u32.2 (by omega) (by rw [List.length_append, List.length_singleton]; omega) (by rw [List.reverse_reverse, List.append_assoc]; exact hw) (by rw [List.reverse_reverse]; exact hpk.2.2) (by rw [List.reverse_reverse, show m - k = m - (k + 1) + 1 by omega]; exact hI2) hSP2 (g_fr_trans hfr hfr2) (g_fl_trans hfl hfl2) _ rfl)
  refine j_aload C 0 4 dX1_spell_0 rfl ?_
  refine j_iconst C 2 (v := nI 0) dX1_spell_2 rfl ?_
  refine j_callV (mc := 0) (ms := 0) C 3 (c_X6_keep (jl κ) D ad ro c Z L (nI (0))) gX1_spell_X6_keep rfl rfl rfl hd_X6_keep (by rw [hR]; exact ⟨Nat.le_of_ble_eq_true rfl, Nat.le_of_ble_eq_true rfl⟩) (ci := 6) rfl 3 (wd_o3 ad ro c Z L) rfl (Nat.le_of_ble_eq_true rfl) ⟨Nat.zero_le _, Nat.zero_le _⟩ dX1_spell_3 (fun _ _ => ?_)
  refine j_aload_n C 6 0 dX1_spell_6 rfl rfl ?_
  refine j_iload_n C 7 1 dX1_spell_7 rfl rfl ?_
  refine j_iload_n C 8 2 dX1_spell_8 rfl rfl ?_
  refine j_callV (mc := 0) (ms := 0) C 9 (c_X1_startPile (jl κ) D ad ro c (upR Z 42 (fun _ => nI (0))) L root m hwf hr2 hCN hm16) gX1_spell_X1_startPile rfl rfl rfl hd_X1_startPile (by rw [hR]; exact ⟨Nat.le_of_ble_eq_true rfl, Nat.le_of_ble_eq_true rfl⟩) (ci := 1) rfl 8 (wd_o8 ad ro c (upR Z 42 (fun _ => nI (0))) L) rfl (Nat.le_of_ble_eq_true rfl) ⟨Nat.zero_le _, Nat.zero_le _⟩ dX1_spell_9 (fun u9 q9 => ?_)
  obtain ⟨s24, s48, sWY, sfr, sfl⟩ := q9
  refine j_lload_n C 12 3 dX1_spell_12 rfl rfl ?_
  refine j_lstore C 13 (lv' := [(6, .long (lN l)), (0, .ref (ad 8)), (1, .int (nI (root))), (2, .int (nI (m))), (3, .long (lN l)), (5, .ref (ad 3))]) dX1_spell_13 (by rw [hn]; decide) rfl ?_
  refine j_iload_n C 15 3 dX1_spell_15 rfl rfl ?_
  refine j_iconst C 16 (v := nI 1) dX1_spell_16 rfl ?_
  refine j_isub_e C 17 (z := nI m + -1) dX1_spell_17 (e_sub1 _) ?_
  refine j_istore C 18 (lv' := [(8, .int (nI m + -1)), (6, .long (lN l)), (0, .ref (ad 8)), (1, .int (nI (root))), (2, .int (nI (m))), (3, .long (lN l)), (5, .ref (ad 3))]) dX1_spell_18 (by rw [hn]; decide) rfl ?_
  have hw0 : g_WD [] (u9.1 42 0) (u9.1 22) := by
    rw [sfr 42 (by decide), sfr 22 (by decide)]
    exact ⟨by simp, rfl, g_ar_nil, fun u hu => by cases hu⟩
  exact j_lv [0, 1, 2, 3, 4, 6] rfl (loop m [root] [] l 0 u9.1 u9.2 (Nat.le_refl _) (Nat.sub_self m).symm rfl (by show l < g_N τ root [root] m; rw [g_c_N]; exact hl) (by rw [Nat.sub_self]; exact g_I_start hwf hr2) ⟨s24, s48, sWY, hw0⟩ (g_fr_trans (g_fr_up g_fr_rfl (by decide) _) (g_fr_sub sfr (by decide))) (g_fl_sub sfl (by decide)) _ rfl)
