/-! contracts: the reference, gather, typeAll, faultOf -/
set_option maxHeartbeats 4000000 in
set_option maxRecDepth 100000 in
theorem c_X8_gather (ll : Launch) (D : va_G) (bd : Nat → Nat) (c : Nat → ClassId) (Z : ZT) (L : LT) {n : Nat} {τ : Tb} (root : Nat) (hwf : g_WF n τ) (hr2 : root < n) (hE : g_EM n τ Z) (hz : Z 41 0 = nI n) : cV (S := ZT) ll yX8_gather vsX8_gather ({ frames := 0, cells := 0, slots := 0, locals := 0 } : Room) D (tysG c) [.ref (bd 0), .int (nI (root))] (wm bd c Z L) (fun Z' => wm bd c Z' L) (fun Z' => (∀ t, t < n → Z' 10 t = b2 (decide (t ∈ g_P τ root)) ∧ Z' 7 t = b2 false ∧ Z' 8 t = nI 0 ∧ Z' 9 t = nI 0 ∧ (t ∈ g_P τ root → g_kd τ t = 5 → Z' 11 t = g_ox (g_B τ root (g_sg τ t) t))) ∧ g_fr [7, 8, 9, 10, 11] Z Z') 0 0 := by
  refine cV_start (cc := cX8_gather) (maxL := 4) RX8 rfl (by decide +kernel) rfl (Nat.le_of_ble_eq_true rfl) ?_
  intro κ hlκ C hr _ E hR hn
  subst hlκ
  have hL : ∀ w ∈ u_ws RX8 TX8 28, w.before (ja κ) (js κ) = true := fun w h => C.t w (mX8_gather_wsX80 w h)
  have f76 : (Cond.fieldLink RX8 76 "GuardedGrammarModel" (TX8 1).2.1 (TX8 1).2.2.1).before (ja κ) (js κ) = true := C.t (.fieldLink RX8 76 "GuardedGrammarModel" "terms" "I") (mX8_gather_o _ (by decide +kernel))
  have f41 : (Cond.fieldLink RX8 41 "GuardedGrammarModel" (TX8 12).2.1 (TX8 12).2.2.1).before (ja κ) (js κ) = true := C.t (.fieldLink RX8 41 "GuardedGrammarModel" "binder" "[I") (mX8_gather_o _ (by decide +kernel))
  have f22 : (Cond.fieldLink RX8 22 "GuardedGrammarModel" (TX8 6).2.1 (TX8 6).2.2.1).before (ja κ) (js κ) = true := C.t (.fieldLink RX8 22 "GuardedGrammarModel" "whole" "[I") (mX8_gather_o _ (by decide +kernel))
  have f7 : (Cond.fieldLink RX8 7 "GuardedGrammarModel" (TX8 2).2.1 (TX8 2).2.2.1).before (ja κ) (js κ) = true := C.t (.fieldLink RX8 7 "GuardedGrammarModel" "kind" "[I") (mX8_gather_o _ (by decide +kernel))
  have f13 : (Cond.fieldLink RX8 13 "GuardedGrammarModel" (TX8 3).2.1 (TX8 3).2.2.1).before (ja κ) (js κ) = true := C.t (.fieldLink RX8 13 "GuardedGrammarModel" "sign" "[I") (mX8_gather_o _ (by decide +kernel))
  have f38 : (Cond.fieldLink RX8 38 "GuardedGrammarModel" (TX8 11).2.1 (TX8 11).2.2.1).before (ja κ) (js κ) = true := C.t (.fieldLink RX8 38 "GuardedGrammarModel" "inside" "[Z") (mX8_gather_o _ (by decide +kernel))
  have f28 : (Cond.fieldLink RX8 28 "GuardedGrammarModel" (TX8 8).2.1 (TX8 8).2.2.1).before (ja κ) (js κ) = true := C.t (.fieldLink RX8 28 "GuardedGrammarModel" "nullable" "[Z") (mX8_gather_o _ (by decide +kernel))
  have f32 : (Cond.fieldLink RX8 32 "GuardedGrammarModel" (TX8 9).2.1 (TX8 9).2.2.1).before (ja κ) (js κ) = true := C.t (.fieldLink RX8 32 "GuardedGrammarModel" "first" "[I") (mX8_gather_o _ (by decide +kernel))
  have f35 : (Cond.fieldLink RX8 35 "GuardedGrammarModel" (TX8 10).2.1 (TX8 10).2.2.1).before (ja κ) (js κ) = true := C.t (.fieldLink RX8 35 "GuardedGrammarModel" "after" "[I") (mX8_gather_o _ (by decide +kernel))
  show J D κ 0 0 0 [(0, .ref (bd 0)), (1, .int (nI (root)))] [] (wm bd c Z L)
  have h48n := hwf.1
  have loop : ∀ m i (Z1 : ZT), m + i = n → (∀ t, t < i → Z1 10 t = b2 (decide (t ∈ g_P τ root)) ∧ Z1 7 t = b2 false ∧ Z1 8 t = nI 0 ∧ Z1 9 t = nI 0 ∧ (t ∈ g_P τ root → g_kd τ t = 5 → Z1 11 t = g_ox (g_B τ root (g_sg τ t) t))) → g_fr [7, 8, 9, 10, 11] Z Z1 → ∀ lv, lv_pick lv [0, 1, 2] = [(2, .int (nI i)), (0, .ref (bd 0)), (1, .int (nI root))] → J D κ 0 0 2 lv [] (wm bd c Z1 L) := by
    intro m
    induction m with
    | zero =>
      intro i Z1 hm hG hfr lv hlv
      obtain rfl : i = n := by omega
      have hz1 : Z1 41 0 = nI i := by rw [hfr 41 (by decide)]; exact hz
      refine j_lv [0, 1, 2] hlv ?_
      refine j_iload_n C 2 0 dX8_gather_2 rfl rfl ?_
      refine j_aload_n C 3 1 dX8_gather_3 rfl rfl ?_
      refine j_get C 4 (ci := 8) hL rfl 0 (wm_o0 bd c Z1 L) 1 (by decide) f76 rfl (v := .int (Z1 41 0)) rfl dX8_gather_4 ?_
      refine j_eqi hz1 ?_
      refine j_icmp_ge_n C 7 138 (by omega) (by omega) dX8_gather_7 (by decide) (fun _ => ?_) (fun h => absurd h (by omega))
      exact j_vreti C hr E (Nat.le_refl _) (Nat.le_refl _) Z1 ⟨hG, hfr⟩ rfl dX8_gather_138
    | succ m ih =>
      intro i Z1 hm hG hfr lv hlv
      have hin : i < n := by omega
      have hz1 : Z1 41 0 = nI n := by rw [hfr 41 (by decide)]; exact hz
      have hE1 : g_EM n τ Z1 := g_EM_fr hfr (by decide) hE
      have hki := hwf.2 i hin
      refine j_lv [0, 1, 2] hlv ?_
      -- behind the way up
      have j95 : ∀ (u : Nat) (Z2 : ZT), (u = root ↔ i ∈ g_P τ root) → u < 48 → g_fr [11] Z1 Z2 → (∀ v, v ≠ i → Z2 11 v = Z1 11 v) → (i ∈ g_P τ root → g_kd τ i = 5 → Z2 11 i = g_ox (g_B τ root (g_sg τ i) i)) → ∀ lv, lv_pick lv [0, 1, 2, 3] = [(3, .int (nI u)), (2, .int (nI i)), (0, .ref (bd 0)), (1, .int (nI root))] → J D κ 0 0 95 lv [] (wm bd c Z2 L) := by
        intro u Z2 hu hu48 hf2 ho hb lv hlv
        refine j_lv [0, 1, 2, 3] hlv ?_
        refine j_aload_n C 95 2 dX8_gather_95 rfl rfl ?_
        refine j_get C 96 (ci := 8) hL rfl 0 (wm_o0 bd c Z2 L) 11 (by decide) f38 rfl (v := .ref (bd 10)) rfl dX8_gather_96 ?_
        refine j_iload_n C 99 1 dX8_gather_99 rfl rfl ?_
        refine j_iload_n C 100 0 dX8_gather_100 rfl rfl ?_
        refine j_iload_n C 101 3 dX8_gather_101 rfl rfl ?_
        refine j_icmp_ne_n C 102 109 (by omega) (by omega) dX8_gather_102 (by decide) (fun h102 => ?_) (fun h102 => ?_)
        · refine j_iconst C 109 (v := nI 0) dX8_gather_109 rfl ?_
          refine j_zast C 110 10 1 (f := Z2 10) (wm_a10 bd c Z2 L) rfl (by omega) (by decide) (nb_01 (by first | exact Or.inl rfl | exact Or.inr rfl)) (wm_s10 bd c Z2 L (upd (Z2 10) (i) (nI (0)))) dX8_gather_110 ?_
          refine j_aload_n C 111 2 dX8_gather_111 rfl rfl ?_
          refine j_get C 112 (ci := 8) hL rfl 0 (wm_o0 bd c (upR Z2 10 (upd (Z2 10) (i) (nI (0)))) L) 8 (by decide) f28 rfl (v := .ref (bd 7)) rfl dX8_gather_112 ?_
          refine j_iload_n C 115 1 dX8_gather_115 rfl rfl ?_
          refine j_iconst C 116 (v := nI 0) dX8_gather_116 rfl ?_
          refine j_zast C 117 7 1 (f := Z2 7) (wm_a7 bd c (upR Z2 10 (upd (Z2 10) (i) (nI (0)))) L) rfl (by omega) (by decide) (nb_01 (Or.inl rfl)) (wm_s7 bd c (upR Z2 10 (upd (Z2 10) (i) (nI (0)))) L (upd (Z2 7) (i) (nI (0)))) dX8_gather_117 ?_
          refine j_aload_n C 118 2 dX8_gather_118 rfl rfl ?_
          refine j_get C 119 (ci := 8) hL rfl 0 (wm_o0 bd c (upR (upR Z2 10 (upd (Z2 10) (i) (nI (0)))) 7 (upd (Z2 7) (i) (nI (0)))) L) 9 (by decide) f32 rfl (v := .ref (bd 8)) rfl dX8_gather_119 ?_
          refine j_iload_n C 122 1 dX8_gather_122 rfl rfl ?_
          refine j_iconst C 123 (v := nI 0) dX8_gather_123 rfl ?_
          refine j_iast C 124 8 0 (f := Z2 8) (wm_a8 bd c (upR (upR Z2 10 (upd (Z2 10) (i) (nI (0)))) 7 (upd (Z2 7) (i) (nI (0)))) L) rfl (by omega) (by decide) (wm_s8 bd c (upR (upR Z2 10 (upd (Z2 10) (i) (nI (0)))) 7 (upd (Z2 7) (i) (nI (0)))) L (upd (Z2 8) (i) (nI (0)))) dX8_gather_124 ?_
          refine j_aload_n C 125 2 dX8_gather_125 rfl rfl ?_
          refine j_get C 126 (ci := 8) hL rfl 0 (wm_o0 bd c (upR (upR (upR Z2 10 (upd (Z2 10) (i) (nI (0)))) 7 (upd (Z2 7) (i) (nI (0)))) 8 (upd (Z2 8) (i) (nI (0)))) L) 10 (by decide) f35 rfl (v := .ref (bd 9)) rfl dX8_gather_126 ?_
          refine j_iload_n C 129 1 dX8_gather_129 rfl rfl ?_
          refine j_iconst C 130 (v := nI 0) dX8_gather_130 rfl ?_
          refine j_iast C 131 9 0 (f := Z2 9) (wm_a9 bd c (upR (upR (upR Z2 10 (upd (Z2 10) (i) (nI (0)))) 7 (upd (Z2 7) (i) (nI (0)))) 8 (upd (Z2 8) (i) (nI (0)))) L) rfl (by omega) (by decide) (wm_s9 bd c (upR (upR (upR Z2 10 (upd (Z2 10) (i) (nI (0)))) 7 (upd (Z2 7) (i) (nI (0)))) 8 (upd (Z2 8) (i) (nI (0)))) L (upd (Z2 9) (i) (nI (0)))) dX8_gather_131 ?_
          refine j_iinc C 132 1 (v := (nI (i + 1))) (lv' := [(2, .int (nI (i + 1))), (3, .int (nI (u))), (0, .ref (bd 0)), (1, .int (nI (root)))]) dX8_gather_132 rfl (nI_add (i) 1) (by rw [hn]; decide) rfl ?_
          refine j_goto C 135 2 dX8_gather_135 (by decide) ?_
          refine j_lv [0, 2, 3] rfl (ih (i + 1) (upR (upR (upR (upR Z2 10 (upd (Z2 10) (i) (nI (0)))) 7 (upd (Z2 7) (i) (nI (0)))) 8 (upd (Z2 8) (i) (nI (0)))) 9 (upd (Z2 9) (i) (nI (0)))) (by omega) (fun t ht => ?_) (g_fr_trans hfr (g_fr_up (g_fr_up (g_fr_up (g_fr_up (g_fr_sub hf2 (by decide)) (by decide) _) (by decide) _) (by decide) _) (by decide) _)) _ rfl)
          show upd (Z2 10) i (nI 0) t = _ ∧ upd (Z2 7) i (nI 0) t = _ ∧ upd (Z2 8) i (nI 0) t = _ ∧ upd (Z2 9) i (nI 0) t = _ ∧ (t ∈ g_P τ root → g_kd τ t = 5 → Z2 11 t = _)
          by_cases e : t = i
          · subst e
            rw [e_upd_same, e_upd_same, e_upd_same, e_upd_same]
            exact ⟨by show nI 0 = b2 (decide (t ∈ g_P τ root)); rw [decide_eq_false (fun z => h102 (hu.mpr z))]; rfl, rfl, rfl, rfl, hb⟩
          · rw [e_upd_ne _ _ e, e_upd_ne _ _ e, e_upd_ne _ _ e, e_upd_ne _ _ e, hf2 10 (by decide), hf2 7 (by decide), hf2 8 (by decide), hf2 9 (by decide), ho t e]
            exact hG t (by omega)
        · refine j_iconst C 105 (v := nI 1) dX8_gather_105 rfl ?_
          refine j_goto C 106 110 dX8_gather_106 (by decide) ?_
          refine j_zast C 110 10 1 (f := Z2 10) (wm_a10 bd c Z2 L) rfl (by omega) (by decide) (nb_01 (by first | exact Or.inl rfl | exact Or.inr rfl)) (wm_s10 bd c Z2 L (upd (Z2 10) (i) (nI (1)))) dX8_gather_110 ?_
          refine j_aload_n C 111 2 dX8_gather_111 rfl rfl ?_
          refine j_get C 112 (ci := 8) hL rfl 0 (wm_o0 bd c (upR Z2 10 (upd (Z2 10) (i) (nI (1)))) L) 8 (by decide) f28 rfl (v := .ref (bd 7)) rfl dX8_gather_112 ?_
          refine j_iload_n C 115 1 dX8_gather_115 rfl rfl ?_
          refine j_iconst C 116 (v := nI 0) dX8_gather_116 rfl ?_
          refine j_zast C 117 7 1 (f := Z2 7) (wm_a7 bd c (upR Z2 10 (upd (Z2 10) (i) (nI (1)))) L) rfl (by omega) (by decide) (nb_01 (Or.inl rfl)) (wm_s7 bd c (upR Z2 10 (upd (Z2 10) (i) (nI (1)))) L (upd (Z2 7) (i) (nI (0)))) dX8_gather_117 ?_
          refine j_aload_n C 118 2 dX8_gather_118 rfl rfl ?_
          refine j_get C 119 (ci := 8) hL rfl 0 (wm_o0 bd c (upR (upR Z2 10 (upd (Z2 10) (i) (nI (1)))) 7 (upd (Z2 7) (i) (nI (0)))) L) 9 (by decide) f32 rfl (v := .ref (bd 8)) rfl dX8_gather_119 ?_
          refine j_iload_n C 122 1 dX8_gather_122 rfl rfl ?_
          refine j_iconst C 123 (v := nI 0) dX8_gather_123 rfl ?_
          refine j_iast C 124 8 0 (f := Z2 8) (wm_a8 bd c (upR (upR Z2 10 (upd (Z2 10) (i) (nI (1)))) 7 (upd (Z2 7) (i) (nI (0)))) L) rfl (by omega) (by decide) (wm_s8 bd c (upR (upR Z2 10 (upd (Z2 10) (i) (nI (1)))) 7 (upd (Z2 7) (i) (nI (0)))) L (upd (Z2 8) (i) (nI (0)))) dX8_gather_124 ?_
          refine j_aload_n C 125 2 dX8_gather_125 rfl rfl ?_
          refine j_get C 126 (ci := 8) hL rfl 0 (wm_o0 bd c (upR (upR (upR Z2 10 (upd (Z2 10) (i) (nI (1)))) 7 (upd (Z2 7) (i) (nI (0)))) 8 (upd (Z2 8) (i) (nI (0)))) L) 10 (by decide) f35 rfl (v := .ref (bd 9)) rfl dX8_gather_126 ?_
          refine j_iload_n C 129 1 dX8_gather_129 rfl rfl ?_
          refine j_iconst C 130 (v := nI 0) dX8_gather_130 rfl ?_
          refine j_iast C 131 9 0 (f := Z2 9) (wm_a9 bd c (upR (upR (upR Z2 10 (upd (Z2 10) (i) (nI (1)))) 7 (upd (Z2 7) (i) (nI (0)))) 8 (upd (Z2 8) (i) (nI (0)))) L) rfl (by omega) (by decide) (wm_s9 bd c (upR (upR (upR Z2 10 (upd (Z2 10) (i) (nI (1)))) 7 (upd (Z2 7) (i) (nI (0)))) 8 (upd (Z2 8) (i) (nI (0)))) L (upd (Z2 9) (i) (nI (0)))) dX8_gather_131 ?_
          refine j_iinc C 132 1 (v := (nI (i + 1))) (lv' := [(2, .int (nI (i + 1))), (3, .int (nI (u))), (0, .ref (bd 0)), (1, .int (nI (root)))]) dX8_gather_132 rfl (nI_add (i) 1) (by rw [hn]; decide) rfl ?_
          refine j_goto C 135 2 dX8_gather_135 (by decide) ?_
          refine j_lv [0, 2, 3] rfl (ih (i + 1) (upR (upR (upR (upR Z2 10 (upd (Z2 10) (i) (nI (1)))) 7 (upd (Z2 7) (i) (nI (0)))) 8 (upd (Z2 8) (i) (nI (0)))) 9 (upd (Z2 9) (i) (nI (0)))) (by omega) (fun t ht => ?_) (g_fr_trans hfr (g_fr_up (g_fr_up (g_fr_up (g_fr_up (g_fr_sub hf2 (by decide)) (by decide) _) (by decide) _) (by decide) _) (by decide) _)) _ rfl)
          show upd (Z2 10) i (nI 1) t = _ ∧ upd (Z2 7) i (nI 0) t = _ ∧ upd (Z2 8) i (nI 0) t = _ ∧ upd (Z2 9) i (nI 0) t = _ ∧ (t ∈ g_P τ root → g_kd τ t = 5 → Z2 11 t = _)
          by_cases e : t = i
          · subst e
            rw [e_upd_same, e_upd_same, e_upd_same, e_upd_same]
            exact ⟨by show nI 1 = b2 (decide (t ∈ g_P τ root)); rw [decide_eq_true (hu.mp h102)]; rfl, rfl, rfl, rfl, hb⟩
          · rw [e_upd_ne _ _ e, e_upd_ne _ _ e, e_upd_ne _ _ e, e_upd_ne _ _ e, hf2 10 (by decide), hf2 7 (by decide), hf2 8 (by decide), hf2 9 (by decide), ho t e]
            exact hG t (by omega)
      have loopA : i ∈ g_P τ root → ∀ m u (Z2 : ZT), root - u ≤ m → u ∈ g_P τ root → g_fr [11] Z1 Z2 → (∀ v, v ≠ i → Z2 11 v = Z1 11 v) → (g_kd τ i = 5 → (Z2 11 i = -1 ∧ g_B τ root (g_sg τ i) i = g_B τ root (g_sg τ i) u) ∨ (∃ k, k < 48 ∧ Z2 11 i = nI k ∧ g_B τ root (g_sg τ i) i = some k)) → ∀ lv, lv_pick lv [0, 1, 2, 3] = [(3, .int (nI u)), (2, .int (nI i)), (0, .ref (bd 0)), (1, .int (nI root))] → J D κ 0 0 19 lv [] (wm bd c Z2 L) := by
        intro hiP m
        induction m using Nat.strongRecOn with
        | ind m ihm =>
          intro u Z2 hm hu hf2 ho hst lv hlv
          have hun := g_P_lt hwf hr2 hu
          have hE2 : g_EM n τ Z2 := g_EM_fr hf2 (by decide) hE1
          refine j_lv [0, 1, 2, 3] hlv ?_
          by_cases hur : u = root
          · refine j_iload_n C 19 0 dX8_gather_19 rfl rfl ?_
            refine j_iload_n C 20 3 dX8_gather_20 rfl rfl ?_
            refine j_icmp_eq_n C 21 95 (by omega) (by omega) dX8_gather_21 (by decide) (fun _ => ?_) (fun h => absurd h (by omega))
            refine j95 u Z2 ⟨fun _ => hiP, fun _ => hur⟩ (by omega) hf2 ho (fun _ hk => ?_) _ rfl
            rcases hst hk with ⟨z1, z2⟩ | ⟨k, -, z1, z2⟩
            · rw [z1, z2, g_B_eq hwf hr2 _ hu, if_pos hur]; rfl
            · rw [z1, z2]; rfl
          · obtain ⟨u1, u2, u3, u4, hip, u6⟩ := g_up hwf hr2 hu hur
            have hkw := hwf.2 _ u2
            have bw := g_B_eq hwf hr2 (g_sg τ i) hu
            rw [if_neg hur] at bw
            by_cases hk5 : g_kd τ i = 5
            rotate_left
            · refine j_iload_n C 19 0 dX8_gather_19 rfl rfl ?_
              refine j_iload_n C 20 3 dX8_gather_20 rfl rfl ?_
              refine j_icmp_eq_n C 21 95 (by omega) (by omega) dX8_gather_21 (by decide) (fun h => absurd h (by omega)) (fun _ => ?_)
              refine j_aload_n C 24 2 dX8_gather_24 rfl rfl ?_
              refine j_get C 25 (ci := 8) hL rfl 0 (wm_o0 bd c Z2 L) 6 (by decide) f22 rfl (v := .ref (bd 5)) rfl dX8_gather_25 ?_
              refine j_iload_n C 28 0 dX8_gather_28 rfl rfl ?_
              refine j_iald C 29 5 0 (f := Z2 5) (wm_a5 bd c Z2 L) rfl (by omega) (by decide) dX8_gather_29 ?_
              refine j_eqi (g_EM_wh hE2 hun hip) ?_
              refine j_if_lt_n C 30 95 (by omega) dX8_gather_30 (by decide) (fun h => absurd h (by omega)) (fun _ => ?_)
              refine j_aload_n C 33 2 dX8_gather_33 rfl rfl ?_
              refine j_get C 34 (ci := 8) hL rfl 0 (wm_o0 bd c Z2 L) 6 (by decide) f22 rfl (v := .ref (bd 5)) rfl dX8_gather_34 ?_
              refine j_iload_n C 37 0 dX8_gather_37 rfl rfl ?_
              refine j_iald C 38 5 0 (f := Z2 5) (wm_a5 bd c Z2 L) rfl (by omega) (by decide) dX8_gather_38 ?_
              refine j_eqi (g_EM_wh hE2 hun hip) ?_
              refine j_istore_n C 39 (lv' := [(3, .int (nI (g_wh τ u))), (2, .int (nI (i))), (0, .ref (bd 0)), (1, .int (nI (root)))]) dX8_gather_39 rfl (by rw [hn]; decide) rfl ?_
              refine j_aload_n C 40 2 dX8_gather_40 rfl rfl ?_
              refine j_get C 41 (ci := 8) hL rfl 0 (wm_o0 bd c Z2 L) 2 (by decide) f7 rfl (v := .ref (bd 1)) rfl dX8_gather_41 ?_
              refine j_iload_n C 44 1 dX8_gather_44 rfl rfl ?_
              refine j_iald C 45 1 0 (f := Z2 1) (wm_a1 bd c Z2 L) rfl (by omega) (by decide) dX8_gather_45 ?_
              refine j_eqi (hE2 i hin).1 ?_
              refine j_iconst C 46 (v := nI 5) dX8_gather_46 rfl ?_
              refine j_icmp_ne_n C 47 19 (by omega) (by omega) dX8_gather_47 (by decide) (fun _ => ?_) (fun h => absurd h (by omega))
              exact j_lv [0, 1, 2, 3] rfl (ihm (root - g_wh τ u) (by omega) _ Z2 (Nat.le_refl _) u3 hf2 ho (fun z => absurd z hk5) _ rfl)
            · rcases hst hk5 with ⟨z1, z2⟩ | ⟨k, hk48, z1, z2⟩
              · refine j_iload_n C 19 0 dX8_gather_19 rfl rfl ?_
                refine j_iload_n C 20 3 dX8_gather_20 rfl rfl ?_
                refine j_icmp_eq_n C 21 95 (by omega) (by omega) dX8_gather_21 (by decide) (fun h => absurd h (by omega)) (fun _ => ?_)
                refine j_aload_n C 24 2 dX8_gather_24 rfl rfl ?_
                refine j_get C 25 (ci := 8) hL rfl 0 (wm_o0 bd c Z2 L) 6 (by decide) f22 rfl (v := .ref (bd 5)) rfl dX8_gather_25 ?_
                refine j_iload_n C 28 0 dX8_gather_28 rfl rfl ?_
                refine j_iald C 29 5 0 (f := Z2 5) (wm_a5 bd c Z2 L) rfl (by omega) (by decide) dX8_gather_29 ?_
                refine j_eqi (g_EM_wh hE2 hun hip) ?_
                refine j_if_lt_n C 30 95 (by omega) dX8_gather_30 (by decide) (fun h => absurd h (by omega)) (fun _ => ?_)
                refine j_aload_n C 33 2 dX8_gather_33 rfl rfl ?_
                refine j_get C 34 (ci := 8) hL rfl 0 (wm_o0 bd c Z2 L) 6 (by decide) f22 rfl (v := .ref (bd 5)) rfl dX8_gather_34 ?_
                refine j_iload_n C 37 0 dX8_gather_37 rfl rfl ?_
                refine j_iald C 38 5 0 (f := Z2 5) (wm_a5 bd c Z2 L) rfl (by omega) (by decide) dX8_gather_38 ?_
                refine j_eqi (g_EM_wh hE2 hun hip) ?_
                refine j_istore_n C 39 (lv' := [(3, .int (nI (g_wh τ u))), (2, .int (nI (i))), (0, .ref (bd 0)), (1, .int (nI (root)))]) dX8_gather_39 rfl (by rw [hn]; decide) rfl ?_
                refine j_aload_n C 40 2 dX8_gather_40 rfl rfl ?_
                refine j_get C 41 (ci := 8) hL rfl 0 (wm_o0 bd c Z2 L) 2 (by decide) f7 rfl (v := .ref (bd 1)) rfl dX8_gather_41 ?_
                refine j_iload_n C 44 1 dX8_gather_44 rfl rfl ?_
                refine j_iald C 45 1 0 (f := Z2 1) (wm_a1 bd c Z2 L) rfl (by omega) (by decide) dX8_gather_45 ?_
                refine j_eqi (hE2 i hin).1 ?_
                refine j_iconst C 46 (v := nI 5) dX8_gather_46 rfl ?_
                refine j_icmp_ne_n C 47 19 (by omega) (by omega) dX8_gather_47 (by decide) (fun h => absurd h (by omega)) (fun _ => ?_)
                refine j_aload_n C 50 2 dX8_gather_50 rfl rfl ?_
                refine j_get C 51 (ci := 8) hL rfl 0 (wm_o0 bd c Z2 L) 12 (by decide) f41 rfl (v := .ref (bd 11)) rfl dX8_gather_51 ?_
                refine j_iload_n C 54 1 dX8_gather_54 rfl rfl ?_
                refine j_iald C 55 11 0 (f := Z2 11) (wm_a11 bd c Z2 L) rfl (by omega) (by decide) dX8_gather_55 ?_
                refine j_eqi z1 ?_
                refine j_if_ge C 56 19 dX8_gather_56 (by decide) (fun h => absurd h (by decide)) (fun _ => ?_)
                refine j_aload_n C 59 2 dX8_gather_59 rfl rfl ?_
                refine j_get C 60 (ci := 8) hL rfl 0 (wm_o0 bd c Z2 L) 2 (by decide) f7 rfl (v := .ref (bd 1)) rfl dX8_gather_60 ?_
                refine j_iload_n C 63 0 dX8_gather_63 rfl rfl ?_
                refine j_iald C 64 1 0 (f := Z2 1) (wm_a1 bd c Z2 L) rfl (by omega) (by decide) dX8_gather_64 ?_
                refine j_eqi (hE2 _ u2).1 ?_
                refine j_bipush C 65 (v := nI 6) dX8_gather_65 rfl ?_
                refine j_icmp_ne_n C 67 19 (by omega) (by omega) dX8_gather_67 (by decide) (fun h67 => ?_) (fun h67 => ?_)
                · rw [if_neg (fun z => h67 z.1)] at bw
                  exact j_lv [0, 1, 2, 3] rfl (ihm (root - g_wh τ u) (by omega) _ Z2 (Nat.le_refl _) u3 hf2 ho (fun _ => Or.inl ⟨z1, by rw [z2, bw]⟩) _ rfl)
                · refine j_aload_n C 70 2 dX8_gather_70 rfl rfl ?_
                  refine j_get C 71 (ci := 8) hL rfl 0 (wm_o0 bd c Z2 L) 3 (by decide) f13 rfl (v := .ref (bd 2)) rfl dX8_gather_71 ?_
                  refine j_iload_n C 74 0 dX8_gather_74 rfl rfl ?_
                  refine j_iald C 75 2 0 (f := Z2 2) (wm_a2 bd c Z2 L) rfl (by omega) (by decide) dX8_gather_75 ?_
                  refine j_eqi ((hE2 _ u2).2.1 (by omega)) ?_
                  refine j_aload_n C 76 2 dX8_gather_76 rfl rfl ?_
                  refine j_get C 77 (ci := 8) hL rfl 0 (wm_o0 bd c Z2 L) 3 (by decide) f13 rfl (v := .ref (bd 2)) rfl dX8_gather_77 ?_
                  refine j_iload_n C 80 1 dX8_gather_80 rfl rfl ?_
                  refine j_iald C 81 2 0 (f := Z2 2) (wm_a2 bd c Z2 L) rfl (by omega) (by decide) dX8_gather_81 ?_
                  refine j_eqi ((hE2 i hin).2.1 (by omega)) ?_
                  refine j_icmp_ne_n C 82 19 (by omega) (by omega) dX8_gather_82 (by decide) (fun h82 => ?_) (fun h82 => ?_)
                  · rw [if_neg (fun z => h82 z.2)] at bw
                    exact j_lv [0, 1, 2, 3] rfl (ihm (root - g_wh τ u) (by omega) _ Z2 (Nat.le_refl _) u3 hf2 ho (fun _ => Or.inl ⟨z1, by rw [z2, bw]⟩) _ rfl)
                  · refine j_aload_n C 85 2 dX8_gather_85 rfl rfl ?_
                    refine j_get C 86 (ci := 8) hL rfl 0 (wm_o0 bd c Z2 L) 12 (by decide) f41 rfl (v := .ref (bd 11)) rfl dX8_gather_86 ?_
                    refine j_iload_n C 89 1 dX8_gather_89 rfl rfl ?_
                    refine j_iload_n C 90 0 dX8_gather_90 rfl rfl ?_
                    refine j_iast C 91 11 0 (f := Z2 11) (wm_a11 bd c Z2 L) rfl (by omega) (by decide) (wm_s11 bd c Z2 L (upd (Z2 11) (i) (nI (g_wh τ u)))) dX8_gather_91 ?_
                    refine j_goto C 92 19 dX8_gather_92 (by decide) ?_
                    rw [if_pos ⟨h67, h82⟩] at bw
                    exact j_lv [0, 1, 2, 3] rfl (ihm (root - g_wh τ u) (by omega) _ (upR Z2 11 (upd (Z2 11) (i) (nI (g_wh τ u)))) (Nat.le_refl _) u3 (g_fr_up hf2 (by decide) _) (fun v hv => by show upd (Z2 11) i _ v = _; rw [e_upd_ne _ _ hv]; exact ho v hv) (fun _ => Or.inr ⟨g_wh τ u, by omega, (by show upd (Z2 11) i _ i = _; rw [e_upd_same]), by rw [z2, bw]⟩) _ rfl)
              · refine j_iload_n C 19 0 dX8_gather_19 rfl rfl ?_
                refine j_iload_n C 20 3 dX8_gather_20 rfl rfl ?_
                refine j_icmp_eq_n C 21 95 (by omega) (by omega) dX8_gather_21 (by decide) (fun h => absurd h (by omega)) (fun _ => ?_)
                refine j_aload_n C 24 2 dX8_gather_24 rfl rfl ?_
                refine j_get C 25 (ci := 8) hL rfl 0 (wm_o0 bd c Z2 L) 6 (by decide) f22 rfl (v := .ref (bd 5)) rfl dX8_gather_25 ?_
                refine j_iload_n C 28 0 dX8_gather_28 rfl rfl ?_
                refine j_iald C 29 5 0 (f := Z2 5) (wm_a5 bd c Z2 L) rfl (by omega) (by decide) dX8_gather_29 ?_
                refine j_eqi (g_EM_wh hE2 hun hip) ?_
                refine j_if_lt_n C 30 95 (by omega) dX8_gather_30 (by decide) (fun h => absurd h (by omega)) (fun _ => ?_)
                refine j_aload_n C 33 2 dX8_gather_33 rfl rfl ?_
                refine j_get C 34 (ci := 8) hL rfl 0 (wm_o0 bd c Z2 L) 6 (by decide) f22 rfl (v := .ref (bd 5)) rfl dX8_gather_34 ?_
                refine j_iload_n C 37 0 dX8_gather_37 rfl rfl ?_
                refine j_iald C 38 5 0 (f := Z2 5) (wm_a5 bd c Z2 L) rfl (by omega) (by decide) dX8_gather_38 ?_
                refine j_eqi (g_EM_wh hE2 hun hip) ?_
                refine j_istore_n C 39 (lv' := [(3, .int (nI (g_wh τ u))), (2, .int (nI (i))), (0, .ref (bd 0)), (1, .int (nI (root)))]) dX8_gather_39 rfl (by rw [hn]; decide) rfl ?_
                refine j_aload_n C 40 2 dX8_gather_40 rfl rfl ?_
                refine j_get C 41 (ci := 8) hL rfl 0 (wm_o0 bd c Z2 L) 2 (by decide) f7 rfl (v := .ref (bd 1)) rfl dX8_gather_41 ?_
                refine j_iload_n C 44 1 dX8_gather_44 rfl rfl ?_
                refine j_iald C 45 1 0 (f := Z2 1) (wm_a1 bd c Z2 L) rfl (by omega) (by decide) dX8_gather_45 ?_
                refine j_eqi (hE2 i hin).1 ?_
                refine j_iconst C 46 (v := nI 5) dX8_gather_46 rfl ?_
                refine j_icmp_ne_n C 47 19 (by omega) (by omega) dX8_gather_47 (by decide) (fun h => absurd h (by omega)) (fun _ => ?_)
                refine j_aload_n C 50 2 dX8_gather_50 rfl rfl ?_
                refine j_get C 51 (ci := 8) hL rfl 0 (wm_o0 bd c Z2 L) 12 (by decide) f41 rfl (v := .ref (bd 11)) rfl dX8_gather_51 ?_
                refine j_iload_n C 54 1 dX8_gather_54 rfl rfl ?_
                refine j_iald C 55 11 0 (f := Z2 11) (wm_a11 bd c Z2 L) rfl (by omega) (by decide) dX8_gather_55 ?_
                refine j_eqi z1 ?_
                refine j_if_ge_n C 56 19 (by omega) dX8_gather_56 (by decide) (fun _ => ?_) (fun h => absurd h (by omega))
                exact j_lv [0, 1, 2, 3] rfl (ihm (root - g_wh τ u) (by omega) _ Z2 (Nat.le_refl _) u3 hf2 ho (fun _ => Or.inr ⟨k, hk48, z1, z2⟩) _ rfl)
      have loopB : i ∉ g_P τ root → ∀ m u (Z2 : ZT), n - u ≤ m → u < n → u ∉ g_P τ root → g_fr [11] Z1 Z2 → (∀ v, v ≠ i → Z2 11 v = Z1 11 v) → ∀ lv, lv_pick lv [0, 1, 2, 3] = [(3, .int (nI u)), (2, .int (nI i)), (0, .ref (bd 0)), (1, .int (nI root))] → J D κ 0 0 19 lv [] (wm bd c Z2 L) := by
        intro hiP m
        induction m using Nat.strongRecOn with
        | ind m ihm =>
          intro u Z2 hm hun hu hf2 ho lv hlv
          have hE2 : g_EM n τ Z2 := g_EM_fr hf2 (by decide) hE1
          have hur : u ≠ root := fun e => hu (by rw [e]; exact g_P_self hwf hr2)
          refine j_lv [0, 1, 2, 3] hlv ?_
          by_cases hip : g_ip τ u = 1
          rotate_left
          · refine j_iload_n C 19 0 dX8_gather_19 rfl rfl ?_
            refine j_iload_n C 20 3 dX8_gather_20 rfl rfl ?_
            refine j_icmp_eq_n C 21 95 (by omega) (by omega) dX8_gather_21 (by decide) (fun h => absurd h (by omega)) (fun _ => ?_)
            refine j_aload_n C 24 2 dX8_gather_24 rfl rfl ?_
            refine j_get C 25 (ci := 8) hL rfl 0 (wm_o0 bd c Z2 L) 6 (by decide) f22 rfl (v := .ref (bd 5)) rfl dX8_gather_25 ?_
            refine j_iload_n C 28 0 dX8_gather_28 rfl rfl ?_
            refine j_iald C 29 5 0 (f := Z2 5) (wm_a5 bd c Z2 L) rfl (by omega) (by decide) dX8_gather_29 ?_
            refine j_eqi ((hE2 u hun).2.2.2.2.1.trans (if_neg hip)) ?_
            refine j_if_lt C 30 95 dX8_gather_30 (by decide) (fun _ => ?_) (fun h => absurd (by decide) h)
            exact j95 u Z2 ⟨fun z => absurd z hur, fun z => absurd z hiP⟩ (by omega) hf2 ho (fun z => absurd z hiP) _ rfl
          · obtain ⟨u3, u1, u2⟩ := g_P_notin hwf hr2 hun hu hip
            have hkw := hwf.2 _ u2
            refine j_iload_n C 19 0 dX8_gather_19 rfl rfl ?_
            refine j_iload_n C 20 3 dX8_gather_20 rfl rfl ?_
            refine j_icmp_eq_n C 21 95 (by omega) (by omega) dX8_gather_21 (by decide) (fun h => absurd h (by omega)) (fun _ => ?_)
            refine j_aload_n C 24 2 dX8_gather_24 rfl rfl ?_
            refine j_get C 25 (ci := 8) hL rfl 0 (wm_o0 bd c Z2 L) 6 (by decide) f22 rfl (v := .ref (bd 5)) rfl dX8_gather_25 ?_
            refine j_iload_n C 28 0 dX8_gather_28 rfl rfl ?_
            refine j_iald C 29 5 0 (f := Z2 5) (wm_a5 bd c Z2 L) rfl (by omega) (by decide) dX8_gather_29 ?_
            refine j_eqi (g_EM_wh hE2 hun hip) ?_
            refine j_if_lt_n C 30 95 (by omega) dX8_gather_30 (by decide) (fun h => absurd h (by omega)) (fun _ => ?_)
            refine j_aload_n C 33 2 dX8_gather_33 rfl rfl ?_
            refine j_get C 34 (ci := 8) hL rfl 0 (wm_o0 bd c Z2 L) 6 (by decide) f22 rfl (v := .ref (bd 5)) rfl dX8_gather_34 ?_
            refine j_iload_n C 37 0 dX8_gather_37 rfl rfl ?_
            refine j_iald C 38 5 0 (f := Z2 5) (wm_a5 bd c Z2 L) rfl (by omega) (by decide) dX8_gather_38 ?_
            refine j_eqi (g_EM_wh hE2 hun hip) ?_
            refine j_istore_n C 39 (lv' := [(3, .int (nI (g_wh τ u))), (2, .int (nI (i))), (0, .ref (bd 0)), (1, .int (nI (root)))]) dX8_gather_39 rfl (by rw [hn]; decide) rfl ?_
            refine j_aload_n C 40 2 dX8_gather_40 rfl rfl ?_
            refine j_get C 41 (ci := 8) hL rfl 0 (wm_o0 bd c Z2 L) 2 (by decide) f7 rfl (v := .ref (bd 1)) rfl dX8_gather_41 ?_
            refine j_iload_n C 44 1 dX8_gather_44 rfl rfl ?_
            refine j_iald C 45 1 0 (f := Z2 1) (wm_a1 bd c Z2 L) rfl (by omega) (by decide) dX8_gather_45 ?_
            refine j_eqi (hE2 i hin).1 ?_
            refine j_iconst C 46 (v := nI 5) dX8_gather_46 rfl ?_
            refine j_icmp_ne_n C 47 19 (by omega) (by omega) dX8_gather_47 (by decide) (fun h47 => ?_) (fun h47 => ?_)
            · exact j_lv [0, 1, 2, 3] rfl (ihm (n - g_wh τ u) (by omega) _ Z2 (Nat.le_refl _) u2 u3 hf2 ho _ rfl)
            · refine j_aload_n C 50 2 dX8_gather_50 rfl rfl ?_
              refine j_get C 51 (ci := 8) hL rfl 0 (wm_o0 bd c Z2 L) 12 (by decide) f41 rfl (v := .ref (bd 11)) rfl dX8_gather_51 ?_
              refine j_iload_n C 54 1 dX8_gather_54 rfl rfl ?_
              refine j_iald C 55 11 0 (f := Z2 11) (wm_a11 bd c Z2 L) rfl (by omega) (by decide) dX8_gather_55 ?_
              refine j_if_ge C 56 19 dX8_gather_56 (by decide) (fun h56 => ?_) (fun h56 => ?_)
              · exact j_lv [0, 1, 2, 3] rfl (ihm (n - g_wh τ u) (by omega) _ Z2 (Nat.le_refl _) u2 u3 hf2 ho _ rfl)
              · refine j_aload_n C 59 2 dX8_gather_59 rfl rfl ?_
                refine j_get C 60 (ci := 8) hL rfl 0 (wm_o0 bd c Z2 L) 2 (by decide) f7 rfl (v := .ref (bd 1)) rfl dX8_gather_60 ?_
                refine j_iload_n C 63 0 dX8_gather_63 rfl rfl ?_
                refine j_iald C 64 1 0 (f := Z2 1) (wm_a1 bd c Z2 L) rfl (by omega) (by decide) dX8_gather_64 ?_
                refine j_eqi (hE2 _ u2).1 ?_
                refine j_bipush C 65 (v := nI 6) dX8_gather_65 rfl ?_
                refine j_icmp_ne_n C 67 19 (by omega) (by omega) dX8_gather_67 (by decide) (fun h67 => ?_) (fun h67 => ?_)
                · exact j_lv [0, 1, 2, 3] rfl (ihm (n - g_wh τ u) (by omega) _ Z2 (Nat.le_refl _) u2 u3 hf2 ho _ rfl)
                · refine j_aload_n C 70 2 dX8_gather_70 rfl rfl ?_
                  refine j_get C 71 (ci := 8) hL rfl 0 (wm_o0 bd c Z2 L) 3 (by decide) f13 rfl (v := .ref (bd 2)) rfl dX8_gather_71 ?_
                  refine j_iload_n C 74 0 dX8_gather_74 rfl rfl ?_
                  refine j_iald C 75 2 0 (f := Z2 2) (wm_a2 bd c Z2 L) rfl (by omega) (by decide) dX8_gather_75 ?_
                  refine j_eqi ((hE2 _ u2).2.1 (by omega)) ?_
                  refine j_aload_n C 76 2 dX8_gather_76 rfl rfl ?_
                  refine j_get C 77 (ci := 8) hL rfl 0 (wm_o0 bd c Z2 L) 3 (by decide) f13 rfl (v := .ref (bd 2)) rfl dX8_gather_77 ?_
                  refine j_iload_n C 80 1 dX8_gather_80 rfl rfl ?_
                  refine j_iald C 81 2 0 (f := Z2 2) (wm_a2 bd c Z2 L) rfl (by omega) (by decide) dX8_gather_81 ?_
                  refine j_eqi ((hE2 i hin).2.1 (by omega)) ?_
                  refine j_icmp_ne_n C 82 19 (by omega) (by omega) dX8_gather_82 (by decide) (fun h82 => ?_) (fun h82 => ?_)
                  · exact j_lv [0, 1, 2, 3] rfl (ihm (n - g_wh τ u) (by omega) _ Z2 (Nat.le_refl _) u2 u3 hf2 ho _ rfl)
                  · refine j_aload_n C 85 2 dX8_gather_85 rfl rfl ?_
                    refine j_get C 86 (ci := 8) hL rfl 0 (wm_o0 bd c Z2 L) 12 (by decide) f41 rfl (v := .ref (bd 11)) rfl dX8_gather_86 ?_
                    refine j_iload_n C 89 1 dX8_gather_89 rfl rfl ?_
                    refine j_iload_n C 90 0 dX8_gather_90 rfl rfl ?_
                    refine j_iast C 91 11 0 (f := Z2 11) (wm_a11 bd c Z2 L) rfl (by omega) (by decide) (wm_s11 bd c Z2 L (upd (Z2 11) (i) (nI (g_wh τ u)))) dX8_gather_91 ?_
                    refine j_goto C 92 19 dX8_gather_92 (by decide) ?_
                    exact j_lv [0, 1, 2, 3] rfl (ihm (n - g_wh τ u) (by omega) _ (upR Z2 11 (upd (Z2 11) (i) (nI (g_wh τ u)))) (Nat.le_refl _) u2 u3 (g_fr_up hf2 (by decide) _) (fun v hv => by show upd (Z2 11) i _ v = _; rw [e_upd_ne _ _ hv]; exact ho v hv) _ rfl)
      refine j_iload_n C 2 0 dX8_gather_2 rfl rfl ?_
      refine j_aload_n C 3 1 dX8_gather_3 rfl rfl ?_
      refine j_get C 4 (ci := 8) hL rfl 0 (wm_o0 bd c Z1 L) 1 (by decide) f76 rfl (v := .int (Z1 41 0)) rfl dX8_gather_4 ?_
      refine j_eqi hz1 ?_
      refine j_icmp_ge_n C 7 138 (by omega) (by omega) dX8_gather_7 (by decide) (fun h => absurd h (by omega)) (fun _ => ?_)
      refine j_iload_n C 10 0 dX8_gather_10 rfl rfl ?_
      refine j_istore_n C 11 (lv' := [(3, .int (nI (i))), (2, .int (nI (i))), (0, .ref (bd 0)), (1, .int (nI (root)))]) dX8_gather_11 rfl (by rw [hn]; decide) rfl ?_
      refine j_aload_n C 12 2 dX8_gather_12 rfl rfl ?_
      refine j_get C 13 (ci := 8) hL rfl 0 (wm_o0 bd c Z1 L) 12 (by decide) f41 rfl (v := .ref (bd 11)) rfl dX8_gather_13 ?_
      refine j_iload_n C 16 1 dX8_gather_16 rfl rfl ?_
      refine j_iconst C 17 (v := -1) dX8_gather_17 rfl ?_
      refine j_iast C 18 11 0 (f := Z1 11) (wm_a11 bd c Z1 L) rfl (by omega) (by decide) (wm_s11 bd c Z1 L (upd (Z1 11) (i) (-1))) dX8_gather_18 ?_
      by_cases hiP : i ∈ g_P τ root
      · exact j_lv [0, 1, 2, 3] rfl (loopA hiP (root - i) i (upR Z1 11 (upd (Z1 11) (i) (-1))) (Nat.le_refl _) hiP (g_fr_up g_fr_rfl (by decide) _) (fun v hv => by show upd (Z1 11) i _ v = _; rw [e_upd_ne _ _ hv]) (fun _ => Or.inl ⟨by show upd (Z1 11) i _ i = _; rw [e_upd_same], rfl⟩) _ rfl)
      · exact j_lv [0, 1, 2, 3] rfl (loopB hiP (n - i) i (upR Z1 11 (upd (Z1 11) (i) (-1))) (Nat.le_refl _) hin hiP (g_fr_up g_fr_rfl (by decide) _) (fun v hv => by show upd (Z1 11) i _ v = _; rw [e_upd_ne _ _ hv]) _ rfl)
  refine j_iconst C 0 (v := nI 0) dX8_gather_0 rfl ?_
  refine j_istore_n C 1 (lv' := [(2, .int (nI (0))), (0, .ref (bd 0)), (1, .int (nI (root)))]) dX8_gather_1 rfl (by rw [hn]; decide) rfl ?_
  exact j_lv [0, 1, 2] rfl (loop n 0 Z (by omega) (fun t ht => by omega) g_fr_rfl _ rfl)
theorem g_cl_of {τ : Tb} {root : Nat} {S : TS} (h : ∀ t, t ∈ g_P τ root → g_F τ root S t = S t) : g_cl τ root S := fun t ht => by rw [h t ht]; exact g_le_rfl _
theorem g_EY_congr {τ : Tb} {root : Nat} {S S' : TS} {N F A : Nat → Int32} (h : ∀ t, t ∈ g_P τ root → S t = S' t) (hY : g_EY τ root S N F A) : g_EY τ root S' N F A := fun t ht => by
  have q := hY t ht
  show N t = b2 (S' t).1 ∧ F t = nI (S' t).2.1 ∧ A t = nI (S' t).2.2 ∧ (S' t).2.1 < 256 ∧ (S' t).2.2 < 256
  rw [← h t ht]
  exact q
set_option maxHeartbeats 4000000 in
set_option maxRecDepth 100000 in
theorem c_X8_typeAll (ll : Launch) (D : va_G) (bd : Nat → Nat) (c : Nat → ClassId) (Z : ZT) (L : LT) {n : Nat} {τ : Tb} (root : Nat) (hwf : g_WF n τ) (hr2 : root < n) (hE : g_EM n τ Z) (hz : Z 41 0 = nI n) : cV (S := ZT) ll yX8_typeAll vsX8_typeAll ({ frames := 1, cells := 0, slots := 0, locals := 27 } : Room) D (tysG c) [.ref (bd 0), .int (nI (root))] (wm bd c Z L) (fun Z' => wm bd c Z' L) (fun Z' => (g_LF τ root (g_T τ root) ∧ g_YM τ root (g_T τ root) Z' ∧ g_BM τ root Z' ∧ g_IM n τ root Z') ∧ g_fr [7, 8, 9, 10, 11] Z Z') 0 0 := by
  refine cV_start (cc := cX8_typeAll) (maxL := 4) RX8 rfl (by decide +kernel) rfl (Nat.le_of_ble_eq_true rfl) ?_
  intro κ hlκ C hr _ E hR hn
  subst hlκ
  have hL : ∀ w ∈ u_ws RX8 TX8 28, w.before (ja κ) (js κ) = true := fun w h => C.t w (mX8_typeAll_wsX80 w h)
  have f76 : (Cond.fieldLink RX8 76 "GuardedGrammarModel" (TX8 1).2.1 (TX8 1).2.2.1).before (ja κ) (js κ) = true := C.t (.fieldLink RX8 76 "GuardedGrammarModel" "terms" "I") (mX8_typeAll_o _ (by decide +kernel))
  have f38 : (Cond.fieldLink RX8 38 "GuardedGrammarModel" (TX8 11).2.1 (TX8 11).2.2.1).before (ja κ) (js κ) = true := C.t (.fieldLink RX8 38 "GuardedGrammarModel" "inside" "[Z") (mX8_typeAll_o _ (by decide +kernel))
  show J D κ 0 0 0 [(0, .ref (bd 0)), (1, .int (nI (root)))] [] (wm bd c Z L)
  have h48n := hwf.1
  have loop : ∀ m (S : TS) (Z1 : ZT) (ch : Bool), (ch = true → 816 - g_cnt τ root S < m) → g_low τ root S → g_inc τ root S → g_YM τ root S Z1 → (ch = false → g_cl τ root S) → g_BM τ root Z1 → g_IM n τ root Z1 → g_fr [7, 8, 9, 10, 11] Z Z1 → ∀ lv, lv_pick lv [0, 1, 2] = [(2, .int (b2 ch)), (0, .ref (bd 0)), (1, .int (nI root))] → J D κ 0 0 7 lv [] (wm bd c Z1 L) := by
    intro m
    induction m with
    | zero =>
      intro S Z1 ch hm hlow hinc hY hcl hB hI hfr lv hlv
      refine j_lv [0, 1, 2] hlv ?_
      cases ch with
      | true => have := hm rfl; omega
      | false =>
        have hLF : g_LF τ root S := ⟨hcl rfl, hlow⟩
        refine j_iload_n C 7 0 dX8_typeAll_7 rfl rfl ?_
        refine j_if_eq_b C 8 (b := false) 59 dX8_typeAll_8 (by decide) (fun _ => ?_) (fun h => by cases h)
        exact j_vreti C hr E (Nat.le_refl _) (Nat.le_refl _) Z1 ⟨⟨g_T_LF hLF, g_EY_congr (fun t ht => g_T_eq hLF ht) hY, hB, hI⟩, hfr⟩ rfl dX8_typeAll_59
    | succ m ih =>
      intro S Z1 ch hm hlow hinc hY hcl hB hI hfr lv hlv
      refine j_lv [0, 1, 2] hlv ?_
      cases ch with
      | false =>
        have hLF : g_LF τ root S := ⟨hcl rfl, hlow⟩
        refine j_iload_n C 7 0 dX8_typeAll_7 rfl rfl ?_
        refine j_if_eq_b C 8 (b := false) 59 dX8_typeAll_8 (by decide) (fun _ => ?_) (fun h => by cases h)
        exact j_vreti C hr E (Nat.le_refl _) (Nat.le_refl _) Z1 ⟨⟨g_T_LF hLF, g_EY_congr (fun t ht => g_T_eq hLF ht) hY, hB, hI⟩, hfr⟩ rfl dX8_typeAll_59
      | true =>
        have hc816 := g_cnt_le hwf hr2 S
        have hmm := hm rfl
        have loop2 : ∀ q i (S2 : TS) (Z2 : ZT) (ch : Bool), q + i = n → g_low τ root S2 → g_inc τ root S2 → g_YM τ root S2 Z2 → g_cnt τ root S ≤ g_cnt τ root S2 → (ch = true → g_cnt τ root S < g_cnt τ root S2) → (ch = false → ∀ t, t < i → t ∈ g_P τ root → g_F τ root S2 t = S2 t) → g_fr [7, 8, 9] Z1 Z2 → ∀ lv, lv_pick lv [0, 1, 2, 3] = [(3, .int (nI i)), (2, .int (b2 ch)), (0, .ref (bd 0)), (1, .int (nI root))] → J D κ 0 0 15 lv [] (wm bd c Z2 L) := by
          intro q
          induction q with
          | zero =>
            intro i S2 Z2 ch hq hlow2 hinc2 hY2 hcnt hc1 hc2 hf2 lv hlv
            obtain rfl : i = n := by omega
            have hz2 : Z2 41 0 = nI i := by rw [hf2 41 (by decide), hfr 41 (by decide)]; exact hz
            have hc8162 := g_cnt_le hwf hr2 S2
            refine j_lv [0, 1, 2, 3] hlv ?_
            refine j_iload_n C 15 0 dX8_typeAll_15 rfl rfl ?_
            refine j_aload_n C 16 2 dX8_typeAll_16 rfl rfl ?_
            refine j_get C 17 (ci := 8) hL rfl 0 (wm_o0 bd c Z2 L) 1 (by decide) f76 rfl (v := .int (Z2 41 0)) rfl dX8_typeAll_17 ?_
            refine j_eqi hz2 ?_
            refine j_icmp_ge_n C 20 56 (by omega) (by omega) dX8_typeAll_20 (by decide) (fun _ => ?_) (fun h => absurd h (by omega))
            refine j_goto C 56 7 dX8_typeAll_56 (by decide) ?_
            exact j_lv [1, 2, 3] rfl (ih S2 Z2 ch (fun z => by have := hc1 z; omega) hlow2 hinc2 hY2 (fun z => g_cl_of (fun t ht => hc2 z t (g_P_lt hwf hr2 ht) ht)) (g_BM_fr hf2 (by decide) hB) (g_IM_fr hf2 (by decide) hI) (g_fr_trans hfr (g_fr_sub hf2 (by decide))) _ rfl)
          | succ q ihq =>
            intro i S2 Z2 ch hq hlow2 hinc2 hY2 hcnt hc1 hc2 hf2 lv hlv
            have hin : i < n := by omega
            have hz2 : Z2 41 0 = nI n := by rw [hf2 41 (by decide), hfr 41 (by decide)]; exact hz
            have hE2 : g_EM n τ Z2 := g_EM_fr hf2 (by decide) (g_EM_fr hfr (by decide) hE)
            have hB2 : g_BM τ root Z2 := g_BM_fr hf2 (by decide) hB
            have hI2 : g_IM n τ root Z2 := g_IM_fr hf2 (by decide) hI
            refine j_lv [0, 1, 2, 3] hlv ?_
            have j49 : ∀ (S3 : TS) (Z3 : ZT) (ch3 : Bool), g_low τ root S3 → g_inc τ root S3 → g_YM τ root S3 Z3 → g_cnt τ root S ≤ g_cnt τ root S3 → (ch3 = true → g_cnt τ root S < g_cnt τ root S3) → (ch3 = false → ∀ t, t < i + 1 → t ∈ g_P τ root → g_F τ root S3 t = S3 t) → g_fr [7, 8, 9] Z1 Z3 → ∀ lv, lv_pick lv [0, 1, 2] = [(3, .int (nI i)), (0, .ref (bd 0)), (1, .int (nI root))] → J D κ 0 0 49 lv [.int (b2 ch3)] (wm bd c Z3 L) := by
              intro S3 Z3 ch3 hlow3 hinc3 hY3 hcnt3 hc13 hc23 hf3 lv hlv
              refine j_lv [0, 1, 2] hlv ?_
              refine j_istore_n C 49 (lv' := [(2, .int (b2 (ch3))), (3, .int (nI (i))), (0, .ref (bd 0)), (1, .int (nI (root)))]) dX8_typeAll_49 rfl (by rw [hn]; decide) rfl ?_
              refine j_iinc C 50 1 (v := (nI (i + 1))) (lv' := [(3, .int (nI (i + 1))), (2, .int (b2 (ch3))), (0, .ref (bd 0)), (1, .int (nI (root)))]) dX8_typeAll_50 rfl (nI_add (i) 1) (by rw [hn]; decide) rfl ?_
              refine j_goto C 53 15 dX8_typeAll_53 (by decide) ?_
              exact j_lv [0, 1, 2, 3] rfl (ihq (i + 1) S3 Z3 ch3 (by omega) hlow3 hinc3 hY3 hcnt3 hc13 hc23 hf3 _ rfl)
            refine j_iload_n C 15 0 dX8_typeAll_15 rfl rfl ?_
            refine j_aload_n C 16 2 dX8_typeAll_16 rfl rfl ?_
            refine j_get C 17 (ci := 8) hL rfl 0 (wm_o0 bd c Z2 L) 1 (by decide) f76 rfl (v := .int (Z2 41 0)) rfl dX8_typeAll_17 ?_
            refine j_eqi hz2 ?_
            refine j_icmp_ge_n C 20 56 (by omega) (by omega) dX8_typeAll_20 (by decide) (fun h => absurd h (by omega)) (fun _ => ?_)
            refine j_aload_n C 23 2 dX8_typeAll_23 rfl rfl ?_
            refine j_get C 24 (ci := 8) hL rfl 0 (wm_o0 bd c Z2 L) 11 (by decide) f38 rfl (v := .ref (bd 10)) rfl dX8_typeAll_24 ?_
            refine j_iload_n C 27 0 dX8_typeAll_27 rfl rfl ?_
            refine j_zald C 28 10 1 (f := Z2 10) (wm_a10 bd c Z2 L) rfl (by omega) (by decide) dX8_typeAll_28 ?_
            refine j_eqi (hI2 i hin) ?_
            refine j_if_eq_b C 29 40 dX8_typeAll_29 (by decide) (fun h29 => ?_) (fun h29 => ?_)
            · refine j_iload_n C 40 1 dX8_typeAll_40 rfl rfl ?_
              refine j_if_eq_b C 41 48 dX8_typeAll_41 (by decide) (fun h41 => ?_) (fun h41 => ?_)
              · refine j_iconst C 48 (v := nI 0) dX8_typeAll_48 rfl ?_
                exact j_lv [0, 2, 3] rfl (j49 S2 Z2 false hlow2 hinc2 hY2 hcnt (fun z => by cases z) (fun _ t ht htP => hc2 h41 t (by have : t ≠ i := (fun e => of_decide_eq_false h29 (by rw [← e]; exact htP)); omega) htP) hf2 _ rfl)
              · refine j_iconst C 44 (v := nI 1) dX8_typeAll_44 rfl ?_
                refine j_goto C 45 49 dX8_typeAll_45 (by decide) ?_
                exact j_lv [0, 2, 3] rfl (j49 S2 Z2 true hlow2 hinc2 hY2 hcnt (fun _ => hc1 h41) (fun z => by cases z) hf2 _ rfl)
            · have hiP : i ∈ g_P τ root := of_decide_eq_true h29
              have hb := hY2 i hiP
              have hF9 := g_F_256 hwf hr2 hlow2 hiP
              refine j_aload_n C 32 2 dX8_typeAll_32 rfl rfl ?_
              refine j_iload_n C 33 0 dX8_typeAll_33 rfl rfl ?_
              refine j_callI (mc := 0) (ms := 0) C 34 (c_X8_grow (jl κ) D bd c Z2 L S2 i hwf hr2 hE2 hB2 hY2 hlow2 hiP) gX8_typeAll_X8_grow rfl rfl rfl hd_X8_grow (by rw [hR]; exact ⟨Nat.le_of_ble_eq_true rfl, Nat.le_of_ble_eq_true rfl⟩) (ci := 8) rfl 0 (wm_o0 bd c Z2 L) rfl (Nat.le_of_ble_eq_true rfl) ⟨Nat.zero_le _, Nat.zero_le _⟩ dX8_typeAll_34 (fun r34 Z34 q34 => ?_)
              obtain ⟨e34, hY34, hf34⟩ := q34
              refine j_eqi e34 ?_
              refine j_if_ne_b C 37 44 dX8_typeAll_37 (by decide) (fun h37 => ?_) (fun h37 => ?_)
              · refine j_iconst C 44 (v := nI 1) dX8_typeAll_44 rfl ?_
                refine j_goto C 45 49 dX8_typeAll_45 (by decide) ?_
                have hlt := g_cnt_lt hwf hr2 hiP (hinc2 i hiP) (of_decide_eq_true h37) hb.2.2.2.1 hb.2.2.2.2 hF9.1 hF9.2
                exact j_lv [0, 2, 3] rfl (j49 (g_upS S2 i (g_F τ root S2 i)) Z34 true (g_low_F hwf hr2 hiP hlow2) (g_inc_up hwf hr2 hiP hinc2) hY34 (by omega) (fun _ => by omega) (fun z => by cases z) (g_fr_trans hf2 hf34) _ rfl)
              · refine j_iload_n C 40 1 dX8_typeAll_40 rfl rfl ?_
                refine j_if_eq_b C 41 48 dX8_typeAll_41 (by decide) (fun h41 => ?_) (fun h41 => ?_)
                · refine j_iconst C 48 (v := nI 0) dX8_typeAll_48 rfl ?_
                  have hsame := Decidable.of_not_not (of_decide_eq_false h37)
                  rw [hsame, g_upS_id] at hY34
                  exact j_lv [0, 2, 3] rfl (j49 S2 Z34 false hlow2 hinc2 hY34 hcnt (fun z => by cases z) (fun _ t ht htP => by by_cases e : t = i; rw [e]; exact hsame; exact hc2 h41 t (by omega) htP) (g_fr_trans hf2 hf34) _ rfl)
                · refine j_iconst C 44 (v := nI 1) dX8_typeAll_44 rfl ?_
                  refine j_goto C 45 49 dX8_typeAll_45 (by decide) ?_
                  have hsame := Decidable.of_not_not (of_decide_eq_false h37)
                  rw [hsame, g_upS_id] at hY34
                  exact j_lv [0, 2, 3] rfl (j49 S2 Z34 true hlow2 hinc2 hY34 hcnt (fun _ => hc1 h41) (fun z => by cases z) (g_fr_trans hf2 hf34) _ rfl)
        refine j_iload_n C 7 0 dX8_typeAll_7 rfl rfl ?_
        refine j_if_eq_b C 8 (b := true) 59 dX8_typeAll_8 (by decide) (fun h => by cases h) (fun _ => ?_)
        refine j_iconst C 11 (v := nI 0) dX8_typeAll_11 rfl ?_
        refine j_eqi (show nI 0 = b2 false from rfl) ?_
        refine j_istore_n C 12 (lv' := [(2, .int (b2 (false))), (0, .ref (bd 0)), (1, .int (nI (root)))]) dX8_typeAll_12 rfl (by rw [hn]; decide) rfl ?_
        refine j_iconst C 13 (v := nI 0) dX8_typeAll_13 rfl ?_
        refine j_istore_n C 14 (lv' := [(3, .int (nI (0))), (2, .int (b2 (false))), (0, .ref (bd 0)), (1, .int (nI (root)))]) dX8_typeAll_14 rfl (by rw [hn]; decide) rfl ?_
        exact j_lv [0, 1, 2, 3] rfl (loop2 n 0 S Z1 false (by omega) hlow hinc hY (Nat.le_refl _) (fun z => by cases z) (fun _ t ht => by omega) g_fr_rfl _ rfl)
  refine j_aload_n C 0 0 dX8_typeAll_0 rfl rfl ?_
  refine j_iload_n C 1 1 dX8_typeAll_1 rfl rfl ?_
  refine j_callV (mc := 0) (ms := 0) C 2 (c_X8_gather (jl κ) D bd c Z L root hwf hr2 hE hz) gX8_typeAll_X8_gather rfl rfl rfl hd_X8_gather (by rw [hR]; exact ⟨Nat.le_of_ble_eq_true rfl, Nat.le_of_ble_eq_true rfl⟩) (ci := 8) rfl 0 (wm_o0 bd c Z L) rfl (Nat.le_of_ble_eq_true rfl) ⟨Nat.zero_le _, Nat.zero_le _⟩ dX8_typeAll_2 (fun Z2 q2 => ?_)
  obtain ⟨hG, hfg⟩ := q2
  refine j_iconst C 5 (v := nI 1) dX8_typeAll_5 rfl ?_
  refine j_eqi (show nI 1 = b2 true from rfl) ?_
  refine j_istore_n C 6 (lv' := [(2, .int (b2 (true))), (0, .ref (bd 0)), (1, .int (nI (root)))]) dX8_typeAll_6 rfl (by rw [hn]; decide) rfl ?_
  refine j_lv [0, 1, 2] rfl (loop 818 (fun _ => (false, 0, 0)) Z2 true (fun _ => by omega) g_low_0 g_inc_0 (fun t ht => ?_) (fun z => by cases z) (fun t ht hk => (hG t (g_P_lt hwf hr2 ht)).2.2.2.2 ht hk) (fun t ht => (hG t ht).1) hfg _ rfl)
  have q := hG t (g_P_lt hwf hr2 ht)
  exact ⟨q.2.1, q.2.2.1, q.2.2.2.1, by show (0 : Nat) < 256; decide, by show (0 : Nat) < 256; decide⟩
set_option maxHeartbeats 4000000 in
set_option maxRecDepth 100000 in
theorem c_X8_faultOf (ll : Launch) (D : va_G) (bd : Nat → Nat) (c : Nat → ClassId) (Z : ZT) (L : LT) {n : Nat} {τ : Tb} (root : Nat) (hwf : g_WF n τ) (hr2 : root < n) (hE : g_EM n τ Z) (hz : Z 41 0 = nI n) : cI (S := ZT) ll yX8_faultOf vsX8_faultOf ({ frames := 2, cells := 0, slots := 0, locals := 50 } : Room) D (tysG c) [.ref (bd 0), .int (nI (root))] (wm bd c Z L) (fun Z' => wm bd c Z' L) (fun r Z' => r = nI (g_fo τ root) ∧ (g_LF τ root (g_T τ root) ∧ g_YM τ root (g_T τ root) Z' ∧ g_BM τ root Z' ∧ g_IM n τ root Z') ∧ g_fr [7, 8, 9, 10, 11] Z Z') 0 0 := by
  refine cI_start (cc := cX8_faultOf) (maxL := 4) RX8 rfl (by decide +kernel) rfl (Nat.le_of_ble_eq_true rfl) ?_
  intro κ hlκ C hr _ E hR hn
  subst hlκ
  have hL : ∀ w ∈ u_ws RX8 TX8 28, w.before (ja κ) (js κ) = true := fun w h => C.t w (mX8_faultOf_wsX80 w h)
  have f22 : (Cond.fieldLink RX8 22 "GuardedGrammarModel" (TX8 6).2.1 (TX8 6).2.2.1).before (ja κ) (js κ) = true := C.t (.fieldLink RX8 22 "GuardedGrammarModel" "whole" "[I") (mX8_faultOf_o _ (by decide +kernel))
  have f19 : (Cond.fieldLink RX8 19 "GuardedGrammarModel" (TX8 5).2.1 (TX8 5).2.2.1).before (ja κ) (js κ) = true := C.t (.fieldLink RX8 19 "GuardedGrammarModel" "two" "[I") (mX8_faultOf_o _ (by decide +kernel))
  show J D κ 0 0 0 [(0, .ref (bd 0)), (1, .int (nI (root)))] [] (wm bd c Z L)
  have h48n := hwf.1
  refine j_aload_n C 0 0 dX8_faultOf_0 rfl rfl ?_
  refine j_iload_n C 1 1 dX8_faultOf_1 rfl rfl ?_
  refine j_callV (mc := 0) (ms := 0) C 2 (c_X8_typeAll (jl κ) D bd c Z L root hwf hr2 hE hz) gX8_faultOf_X8_typeAll rfl rfl rfl hd_X8_typeAll (by rw [hR]; exact ⟨Nat.le_of_ble_eq_true rfl, Nat.le_of_ble_eq_true rfl⟩) (ci := 8) rfl 0 (wm_o0 bd c Z L) rfl (Nat.le_of_ble_eq_true rfl) ⟨Nat.zero_le _, Nat.zero_le _⟩ dX8_faultOf_2 (fun Z2 q2 => ?_)
  obtain ⟨⟨hLF, hY, hB, hI⟩, hfr⟩ := q2
  have hE2 : g_EM n τ Z2 := g_EM_fr hfr (by decide) hE
  have loop : ∀ (l : List Nat) (t : Nat), g_chn τ (t :: l) → (t :: l).Nodup → (t :: l).getLast? = some root → (∀ u, u ∈ t :: l → u ∈ g_P τ root) → g_fo τ root = g_ff τ root (g_T τ root) (t :: l) → ∀ lv, lv_pick lv [0, 1, 2] = [(2, .int (nI t)), (0, .ref (bd 0)), (1, .int (nI root))] → J D κ 0 0 11 lv [] (wm bd c Z2 L) := by
    intro l
    induction l with
    | nil =>
      intro t hch hnd hla hmem hfo lv hlv
      have ht : t ∈ g_P τ root := hmem t (by simp)
      have htn := g_P_lt hwf hr2 ht
      have hfa := g_fa_le (τ := τ) (root := root) (S := (g_T τ root)) t
      have htr : t = root := Option.some.inj hla
      have hff : g_ff τ root (g_T τ root) [t] = if g_fa τ root (g_T τ root) t = 0 then 0 else g_fa τ root (g_T τ root) t + 8 * t := rfl
      rw [hff] at hfo
      refine j_lv [0, 1, 2] hlv ?_
      refine j_aload_n C 11 1 dX8_faultOf_11 rfl rfl ?_
      refine j_iload_n C 12 0 dX8_faultOf_12 rfl rfl ?_
      refine j_callI (mc := 0) (ms := 0) C 13 (c_X8_faultAt (jl κ) D bd c Z2 L (g_T τ root) t hwf hr2 hE2 hB hY ht) gX8_faultOf_X8_faultAt rfl rfl rfl hd_X8_faultAt (by rw [hR]; exact ⟨Nat.le_of_ble_eq_true rfl, Nat.le_of_ble_eq_true rfl⟩) (ci := 8) rfl 0 (wm_o0 bd c Z2 L) rfl (Nat.le_of_ble_eq_true rfl) ⟨Nat.zero_le _, Nat.zero_le _⟩ dX8_faultOf_13 (fun r13 _ e13 => ?_)
      refine j_eqi e13 ?_
      refine j_if_le_n C 16 30 (by omega) dX8_faultOf_16 (by decide) (fun h16 => ?_) (fun h16 => ?_)
      · refine j_iload_n C 30 0 dX8_faultOf_30 rfl rfl ?_
        refine j_iload_n C 31 2 dX8_faultOf_31 rfl rfl ?_
        refine j_icmp_ne_n C 32 37 (by omega) (by omega) dX8_faultOf_32 (by decide) (fun h => absurd h (by omega)) (fun _ => ?_)
        refine j_iconst C 35 (v := nI 0) dX8_faultOf_35 rfl ?_
        exact j_ireti C hr E (Nat.le_refl _) (Nat.le_refl _) rfl Z2 ⟨by rw [hfo, if_pos (by omega)], ⟨hLF, hY, hB, hI⟩, hfr⟩ rfl dX8_faultOf_36
      · refine j_bipush C 19 (v := nI 8) dX8_faultOf_19 rfl ?_
        refine j_iload_n C 21 0 dX8_faultOf_21 rfl rfl ?_
        refine j_imul_e C 22 dX8_faultOf_22 (pk_mul _ _) ?_
        refine j_aload_n C 23 1 dX8_faultOf_23 rfl rfl ?_
        refine j_iload_n C 24 0 dX8_faultOf_24 rfl rfl ?_
        refine j_callI (mc := 0) (ms := 0) C 25 (c_X8_faultAt (jl κ) D bd c Z2 L (g_T τ root) t hwf hr2 hE2 hB hY ht) gX8_faultOf_X8_faultAt rfl rfl rfl hd_X8_faultAt (by rw [hR]; exact ⟨Nat.le_of_ble_eq_true rfl, Nat.le_of_ble_eq_true rfl⟩) (ci := 8) rfl 0 (wm_o0 bd c Z2 L) rfl (Nat.le_of_ble_eq_true rfl) ⟨Nat.zero_le _, Nat.zero_le _⟩ dX8_faultOf_25 (fun r25 _ e25 => ?_)
        refine j_eqi e25 ?_
        refine j_iadd_e C 28 dX8_faultOf_28 (nI_add _ _) ?_
        exact j_ireti C hr E (Nat.le_refl _) (Nat.le_refl _) rfl Z2 ⟨by rw [hfo, if_neg (by omega), Nat.add_comm], ⟨hLF, hY, hB, hI⟩, hfr⟩ rfl dX8_faultOf_29
    | cons b l ih =>
      intro t hch hnd hla hmem hfo lv hlv
      have ht : t ∈ g_P τ root := hmem t (by simp)
      have htn := g_P_lt hwf hr2 ht
      have hfa := g_fa_le (τ := τ) (root := root) (S := (g_T τ root)) t
      have hmr : root ∈ b :: l := by
        rw [List.getLast?_cons_cons] at hla
        exact List.mem_of_getLast? hla
      have htr : t ≠ root := fun e => by
        rw [List.nodup_cons] at hnd
        exact hnd.1 (by rw [e]; exact hmr)
      have hff : g_ff τ root (g_T τ root) (t :: b :: l) = if g_fa τ root (g_T τ root) t = 0 then g_ff τ root (g_T τ root) (b :: l) else g_fa τ root (g_T τ root) t + 8 * t := rfl
      rw [hff] at hfo
      obtain ⟨u1, u2, u3, u4, hip, u6⟩ := g_up hwf hr2 ht htr
      have hbn : b = g_nxt τ t := hch.1
      have go : ∀ lv, lv_pick lv [0, 1, 2] = [(2, .int (nI b)), (0, .ref (bd 0)), (1, .int (nI root))] → g_fa τ root (g_T τ root) t = 0 → J D κ 0 0 11 lv [] (wm bd c Z2 L) := fun lv hlv h0 => ih b hch.2 (List.nodup_cons.mp hnd).2 (by rw [List.getLast?_cons_cons] at hla; exact hla) (fun u hu => hmem u (by simp [List.mem_cons.mp hu])) (by rw [hfo, if_pos h0]) lv hlv
      refine j_lv [0, 1, 2] hlv ?_
      have hkw : g_kd τ (g_wh τ t) = 3 ∨ g_kd τ (g_wh τ t) = 4 ∨ g_kd τ (g_wh τ t) = 6 := by
        unfold g_ch at u4
        split at u4
        · omega
        · split at u4
          · omega
          · cases u4
      by_cases hk34 : g_kd τ (g_wh τ t) = 3 ∨ g_kd τ (g_wh τ t) = 4
      · have hrt9 := (g_rtP hwf hr2 u3 hk34).2.1
        refine j_aload_n C 11 1 dX8_faultOf_11 rfl rfl ?_
        refine j_iload_n C 12 0 dX8_faultOf_12 rfl rfl ?_
        refine j_callI (mc := 0) (ms := 0) C 13 (c_X8_faultAt (jl κ) D bd c Z2 L (g_T τ root) t hwf hr2 hE2 hB hY ht) gX8_faultOf_X8_faultAt rfl rfl rfl hd_X8_faultAt (by rw [hR]; exact ⟨Nat.le_of_ble_eq_true rfl, Nat.le_of_ble_eq_true rfl⟩) (ci := 8) rfl 0 (wm_o0 bd c Z2 L) rfl (Nat.le_of_ble_eq_true rfl) ⟨Nat.zero_le _, Nat.zero_le _⟩ dX8_faultOf_13 (fun r13 _ e13 => ?_)
        refine j_eqi e13 ?_
        refine j_if_le_n C 16 30 (by omega) dX8_faultOf_16 (by decide) (fun h16 => ?_) (fun h16 => ?_)
        · refine j_iload_n C 30 0 dX8_faultOf_30 rfl rfl ?_
          refine j_iload_n C 31 2 dX8_faultOf_31 rfl rfl ?_
          refine j_icmp_ne_n C 32 37 (by omega) (by omega) dX8_faultOf_32 (by decide) (fun _ => ?_) (fun h => absurd h (by omega))
          refine j_aload_n C 37 1 dX8_faultOf_37 rfl rfl ?_
          refine j_get C 38 (ci := 8) hL rfl 0 (wm_o0 bd c Z2 L) 6 (by decide) f22 rfl (v := .ref (bd 5)) rfl dX8_faultOf_38 ?_
          refine j_iload_n C 41 0 dX8_faultOf_41 rfl rfl ?_
          refine j_iald C 42 5 0 (f := Z2 5) (wm_a5 bd c Z2 L) rfl (by omega) (by decide) dX8_faultOf_42 ?_
          refine j_eqi (g_EM_wh hE2 htn hip) ?_
          refine j_istore_n C 43 (lv' := [(3, .int (nI (g_wh τ t))), (2, .int (nI (t))), (0, .ref (bd 0)), (1, .int (nI (root)))]) dX8_faultOf_43 rfl (by rw [hn]; decide) rfl ?_
          refine j_aload_n C 44 2 dX8_faultOf_44 rfl rfl ?_
          refine j_get C 45 (ci := 8) hL rfl 0 (wm_o0 bd c Z2 L) 5 (by decide) f19 rfl (v := .ref (bd 4)) rfl dX8_faultOf_45 ?_
          refine j_iload_n C 48 0 dX8_faultOf_48 rfl rfl ?_
          refine j_iald C 49 4 0 (f := Z2 4) (wm_a4 bd c Z2 L) rfl (by omega) (by decide) dX8_faultOf_49 ?_
          refine j_eqi (g_EM_rt hE2 u2 hk34) ?_
          refine j_if_lt_n C 50 76 (by omega) dX8_faultOf_50 (by decide) (fun h => absurd h (by omega)) (fun _ => ?_)
          refine j_aload_n C 53 2 dX8_faultOf_53 rfl rfl ?_
          refine j_get C 54 (ci := 8) hL rfl 0 (wm_o0 bd c Z2 L) 5 (by decide) f19 rfl (v := .ref (bd 4)) rfl dX8_faultOf_54 ?_
          refine j_iload_n C 57 0 dX8_faultOf_57 rfl rfl ?_
          refine j_iald C 58 4 0 (f := Z2 4) (wm_a4 bd c Z2 L) rfl (by omega) (by decide) dX8_faultOf_58 ?_
          refine j_eqi (g_EM_rt hE2 u2 hk34) ?_
          refine j_iload_n C 59 1 dX8_faultOf_59 rfl rfl ?_
          refine j_icmp_eq_n C 60 76 (by omega) (by omega) dX8_faultOf_60 (by decide) (fun h60 => ?_) (fun h60 => ?_)
          · refine j_iload_n C 76 0 dX8_faultOf_76 rfl rfl ?_
            refine j_istore_n C 77 (lv' := [(2, .int (nI (g_wh τ t))), (3, .int (nI (g_wh τ t))), (0, .ref (bd 0)), (1, .int (nI (root)))]) dX8_faultOf_77 rfl (by rw [hn]; decide) rfl ?_
            refine j_goto C 78 11 dX8_faultOf_78 (by decide) ?_
            refine j_lv [0, 2, 3] rfl (go _ ?_ (by omega))
            rw [show b = g_wh τ t from by rw [hbn]; unfold g_nxt; rw [if_neg (fun z => z.2 h60)]]; rfl
          · refine j_aload_n C 63 2 dX8_faultOf_63 rfl rfl ?_
            refine j_aload_n C 64 2 dX8_faultOf_64 rfl rfl ?_
            refine j_get C 65 (ci := 8) hL rfl 0 (wm_o0 bd c Z2 L) 5 (by decide) f19 rfl (v := .ref (bd 4)) rfl dX8_faultOf_65 ?_
            refine j_iload_n C 68 0 dX8_faultOf_68 rfl rfl ?_
            refine j_iald C 69 4 0 (f := Z2 4) (wm_a4 bd c Z2 L) rfl (by omega) (by decide) dX8_faultOf_69 ?_
            refine j_eqi (g_EM_rt hE2 u2 hk34) ?_
            refine j_callI (mc := 0) (ms := 0) C 70 (c_X8_leftmost (jl κ) D bd c Z2 L (g_rt τ (g_wh τ t)) hwf hE2 (by omega)) gX8_faultOf_X8_leftmost rfl rfl rfl hd_X8_leftmost (by rw [hR]; exact ⟨Nat.le_of_ble_eq_true rfl, Nat.le_of_ble_eq_true rfl⟩) (ci := 8) rfl 0 (wm_o0 bd c Z2 L) rfl (Nat.le_of_ble_eq_true rfl) ⟨Nat.zero_le _, Nat.zero_le _⟩ dX8_faultOf_70 (fun r70 _ e70 => ?_)
            refine j_eqi e70 ?_
            refine j_goto C 73 77 dX8_faultOf_73 (by decide) ?_
            refine j_istore_n C 77 (lv' := [(2, .int (nI (g_lm τ (g_rt τ (g_wh τ t))))), (3, .int (nI (g_wh τ t))), (0, .ref (bd 0)), (1, .int (nI (root)))]) dX8_faultOf_77 rfl (by rw [hn]; decide) rfl ?_
            refine j_goto C 78 11 dX8_faultOf_78 (by decide) ?_
            refine j_lv [0, 2, 3] rfl (go _ ?_ (by omega))
            rw [show b = g_lm τ (g_rt τ (g_wh τ t)) from by rw [hbn]; unfold g_nxt; rw [if_pos ⟨hk34, h60⟩]]; rfl
        · refine j_bipush C 19 (v := nI 8) dX8_faultOf_19 rfl ?_
          refine j_iload_n C 21 0 dX8_faultOf_21 rfl rfl ?_
          refine j_imul_e C 22 dX8_faultOf_22 (pk_mul _ _) ?_
          refine j_aload_n C 23 1 dX8_faultOf_23 rfl rfl ?_
          refine j_iload_n C 24 0 dX8_faultOf_24 rfl rfl ?_
          refine j_callI (mc := 0) (ms := 0) C 25 (c_X8_faultAt (jl κ) D bd c Z2 L (g_T τ root) t hwf hr2 hE2 hB hY ht) gX8_faultOf_X8_faultAt rfl rfl rfl hd_X8_faultAt (by rw [hR]; exact ⟨Nat.le_of_ble_eq_true rfl, Nat.le_of_ble_eq_true rfl⟩) (ci := 8) rfl 0 (wm_o0 bd c Z2 L) rfl (Nat.le_of_ble_eq_true rfl) ⟨Nat.zero_le _, Nat.zero_le _⟩ dX8_faultOf_25 (fun r25 _ e25 => ?_)
          refine j_eqi e25 ?_
          refine j_iadd_e C 28 dX8_faultOf_28 (nI_add _ _) ?_
          exact j_ireti C hr E (Nat.le_refl _) (Nat.le_refl _) rfl Z2 ⟨by rw [hfo, if_neg (by omega), Nat.add_comm], ⟨hLF, hY, hB, hI⟩, hfr⟩ rfl dX8_faultOf_29
      · refine j_aload_n C 11 1 dX8_faultOf_11 rfl rfl ?_
        refine j_iload_n C 12 0 dX8_faultOf_12 rfl rfl ?_
        refine j_callI (mc := 0) (ms := 0) C 13 (c_X8_faultAt (jl κ) D bd c Z2 L (g_T τ root) t hwf hr2 hE2 hB hY ht) gX8_faultOf_X8_faultAt rfl rfl rfl hd_X8_faultAt (by rw [hR]; exact ⟨Nat.le_of_ble_eq_true rfl, Nat.le_of_ble_eq_true rfl⟩) (ci := 8) rfl 0 (wm_o0 bd c Z2 L) rfl (Nat.le_of_ble_eq_true rfl) ⟨Nat.zero_le _, Nat.zero_le _⟩ dX8_faultOf_13 (fun r13 _ e13 => ?_)
        refine j_eqi e13 ?_
        refine j_if_le_n C 16 30 (by omega) dX8_faultOf_16 (by decide) (fun h16 => ?_) (fun h16 => ?_)
        · refine j_iload_n C 30 0 dX8_faultOf_30 rfl rfl ?_
          refine j_iload_n C 31 2 dX8_faultOf_31 rfl rfl ?_
          refine j_icmp_ne_n C 32 37 (by omega) (by omega) dX8_faultOf_32 (by decide) (fun _ => ?_) (fun h => absurd h (by omega))
          refine j_aload_n C 37 1 dX8_faultOf_37 rfl rfl ?_
          refine j_get C 38 (ci := 8) hL rfl 0 (wm_o0 bd c Z2 L) 6 (by decide) f22 rfl (v := .ref (bd 5)) rfl dX8_faultOf_38 ?_
          refine j_iload_n C 41 0 dX8_faultOf_41 rfl rfl ?_
          refine j_iald C 42 5 0 (f := Z2 5) (wm_a5 bd c Z2 L) rfl (by omega) (by decide) dX8_faultOf_42 ?_
          refine j_eqi (g_EM_wh hE2 htn hip) ?_
          refine j_istore_n C 43 (lv' := [(3, .int (nI (g_wh τ t))), (2, .int (nI (t))), (0, .ref (bd 0)), (1, .int (nI (root)))]) dX8_faultOf_43 rfl (by rw [hn]; decide) rfl ?_
          refine j_aload_n C 44 2 dX8_faultOf_44 rfl rfl ?_
          refine j_get C 45 (ci := 8) hL rfl 0 (wm_o0 bd c Z2 L) 5 (by decide) f19 rfl (v := .ref (bd 4)) rfl dX8_faultOf_45 ?_
          refine j_iload_n C 48 0 dX8_faultOf_48 rfl rfl ?_
          refine j_iald C 49 4 0 (f := Z2 4) (wm_a4 bd c Z2 L) rfl (by omega) (by decide) dX8_faultOf_49 ?_
          refine j_eqi ((hE2 _ u2).2.2.2.1.trans (if_neg hk34)) ?_
          refine j_if_lt C 50 76 dX8_faultOf_50 (by decide) (fun _ => ?_) (fun h => absurd (by decide) h)
          refine j_iload_n C 76 0 dX8_faultOf_76 rfl rfl ?_
          refine j_istore_n C 77 (lv' := [(2, .int (nI (g_wh τ t))), (3, .int (nI (g_wh τ t))), (0, .ref (bd 0)), (1, .int (nI (root)))]) dX8_faultOf_77 rfl (by rw [hn]; decide) rfl ?_
          refine j_goto C 78 11 dX8_faultOf_78 (by decide) ?_
          refine j_lv [0, 2, 3] rfl (go _ ?_ (by omega))
          rw [show b = g_wh τ t from by rw [hbn]; unfold g_nxt; rw [if_neg (fun z => hk34 z.1)]]; rfl
        · refine j_bipush C 19 (v := nI 8) dX8_faultOf_19 rfl ?_
          refine j_iload_n C 21 0 dX8_faultOf_21 rfl rfl ?_
          refine j_imul_e C 22 dX8_faultOf_22 (pk_mul _ _) ?_
          refine j_aload_n C 23 1 dX8_faultOf_23 rfl rfl ?_
          refine j_iload_n C 24 0 dX8_faultOf_24 rfl rfl ?_
          refine j_callI (mc := 0) (ms := 0) C 25 (c_X8_faultAt (jl κ) D bd c Z2 L (g_T τ root) t hwf hr2 hE2 hB hY ht) gX8_faultOf_X8_faultAt rfl rfl rfl hd_X8_faultAt (by rw [hR]; exact ⟨Nat.le_of_ble_eq_true rfl, Nat.le_of_ble_eq_true rfl⟩) (ci := 8) rfl 0 (wm_o0 bd c Z2 L) rfl (Nat.le_of_ble_eq_true rfl) ⟨Nat.zero_le _, Nat.zero_le _⟩ dX8_faultOf_25 (fun r25 _ e25 => ?_)
          refine j_eqi e25 ?_
          refine j_iadd_e C 28 dX8_faultOf_28 (nI_add _ _) ?_
          exact j_ireti C hr E (Nat.le_refl _) (Nat.le_refl _) rfl Z2 ⟨by rw [hfo, if_neg (by omega), Nat.add_comm], ⟨hLF, hY, hB, hI⟩, hfr⟩ rfl dX8_faultOf_29
  refine j_aload_n C 5 0 dX8_faultOf_5 rfl rfl ?_
  refine j_iload_n C 6 1 dX8_faultOf_6 rfl rfl ?_
  refine j_callI (mc := 0) (ms := 0) C 7 (c_X8_leftmost (jl κ) D bd c Z2 L (root) hwf hE2 hr2) gX8_faultOf_X8_leftmost rfl rfl rfl hd_X8_leftmost (by rw [hR]; exact ⟨Nat.le_of_ble_eq_true rfl, Nat.le_of_ble_eq_true rfl⟩) (ci := 8) rfl 0 (wm_o0 bd c Z2 L) rfl (Nat.le_of_ble_eq_true rfl) ⟨Nat.zero_le _, Nat.zero_le _⟩ dX8_faultOf_7 (fun r7 _ e7 => ?_)
  refine j_eqi e7 ?_
  refine j_istore_n C 10 (lv' := [(2, .int (nI (g_lm τ (root)))), (0, .ref (bd 0)), (1, .int (nI (root)))]) dX8_faultOf_10 rfl (by rw [hn]; decide) rfl ?_
  have hpos := g_P_pos hwf hr2
  have hchn := g_P_chn hwf root hr2
  have hnd := g_P_nodup hwf root hr2
  have hla := g_P_last hwf hr2
  have hfo : g_fo τ root = g_ff τ root (g_T τ root) (g_P τ root) := rfl
  have hmm : ∀ u, u ∈ g_P τ root → u ∈ g_P τ root := fun u hu => hu
  have hlm : g_lm τ root = (g_P τ root).headD 0 := rfl
  revert hchn hnd hla hfo hmm hlm
  generalize hPl : g_P τ root = Pl at hpos
  cases Pl with
  | nil => simp at hpos
  | cons a l =>
    intro hchn hnd hla hfo hmm hlm
    refine j_lv [0, 1, 2] rfl (loop l a hchn hnd hla (fun u hu => by rw [hPl]; exact hu) hfo _ ?_)
    rw [show g_lm τ root = a from hlm]; rfl
