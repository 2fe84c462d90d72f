/-! contracts: the reference, find -/
set_option maxHeartbeats 4000000 in
set_option maxRecDepth 100000 in
theorem c_X8_find (ll : Launch) (D : va_G) (bd : Nat → Nat) (c : Nat → ClassId) (Z : ZT) (L : LT) {n : Nat} {τ : Tb} {w : List Nat} {st : Int32} {tr : List Nat} (x y : Int32) (l : Int64) (hSM : g_SM n τ w st tr Z) : cV (S := ZT × LT) ll yX8_find vsX8_find ({ frames := 4, cells := 0, slots := 0, locals := 95 } : Room) D (tysG c) [.ref (bd 0), .int (x), .int (y), .long (l)] (wm bd c Z L) (fun u => wm bd c u.1 u.2) (fun u => u.1 40 0 = nI (k_find n τ x y l) ∧ (k_find n τ x y l = 0 → g_SM n τ (w_find τ x y l) st tr u.1) ∧ (k_find n τ x y l ≠ 0 → g_SM n τ w st tr u.1)) 0 0 := by
  refine cV_start (cc := cX8_find) (maxL := 12) RX8 rfl (by decide +kernel) rfl (Nat.le_of_ble_eq_true rfl) ?_
  intro κ hlκ C hr _ E hR hn
  subst hlκ
  have hL : ∀ w ∈ u_ws RX8 TX8 28, w.before (ja κ) (js κ) = true := fun w h => C.t w (mX8_find_wsX80 w h)
  have f73 : (Cond.fieldLink RX8 73 "GuardedGrammarModel" (TX8 0).2.1 (TX8 0).2.2.1).before (ja κ) (js κ) = true := C.t (.fieldLink RX8 73 "GuardedGrammarModel" "thrown" "I") (mX8_find_o _ (by decide +kernel))
  have f63 : (Cond.fieldLink RX8 63 "GuardedGrammarModel" (TX8 25).2.1 (TX8 25).2.2.1).before (ja κ) (js κ) = true := C.t (.fieldLink RX8 63 "GuardedGrammarModel" "counts" "[J") (mX8_find_o _ (by decide +kernel))
  have f44 : (Cond.fieldLink RX8 44 "GuardedGrammarModel" (TX8 14).2.1 (TX8 14).2.2.1).before (ja κ) (js κ) = true := C.t (.fieldLink RX8 44 "GuardedGrammarModel" "word" "[I") (mX8_find_o _ (by decide +kernel))
  have f126 : (Cond.fieldLink RX8 126 "GuardedGrammarModel" (TX8 18).2.1 (TX8 18).2.2.1).before (ja κ) (js κ) = true := C.t (.fieldLink RX8 126 "GuardedGrammarModel" "fresh" "I") (mX8_find_o _ (by decide +kernel))
  have f113 : (Cond.fieldLink RX8 113 "GuardedGrammarModel" (TX8 13).2.1 (TX8 13).2.2.1).before (ja κ) (js κ) = true := C.t (.fieldLink RX8 113 "GuardedGrammarModel" "letters" "I") (mX8_find_o _ (by decide +kernel))
  show J D κ 0 0 0 [(0, .ref (bd 0)), (1, .int (x)), (2, .int (y)), (3, .long (l))] [] (wm bd c Z L)
  obtain ⟨hwf, hE, hz, hwd, h43, h44, htr, htl⟩ := id hSM
  have ht48 := hwf.1
  have hk3 := k_count_3 (n := n) (τ := τ) (x := x) (y := y)
  by_cases h0 : k_count n τ x y = 0
  · refine j_aload_n C 0 0 dX8_find_0 rfl rfl ?_
    refine j_aload_n C 1 0 dX8_find_1 rfl rfl ?_
    refine j_iload_n C 2 1 dX8_find_2 rfl rfl ?_
    refine j_iload_n C 3 2 dX8_find_3 rfl rfl ?_
    refine j_callI (mc := 0) (ms := 0) C 4 (c_X8_wrongCount (jl κ) D bd c Z L x y hSM) gX8_find_X8_wrongCount rfl rfl rfl hd_X8_wrongCount (by rw [hR]; exact ⟨Nat.le_of_ble_eq_true rfl, Nat.le_of_ble_eq_true rfl⟩) (ci := 8) rfl 0 (wm_o0 bd c Z L) rfl (Nat.le_of_ble_eq_true rfl) ⟨Nat.zero_le _, Nat.zero_le _⟩ dX8_find_4 (fun r4 Z4 q4 => ?_)
    obtain ⟨e4, hfr4, hok4⟩ := q4
    refine j_eqi (y := nI (0)) (e4.trans (by first | rw [h0] | rfl)) ?_
    have hSM4 : g_SM n τ w st tr Z4 := g_SM_fr hSM hfr4 (by decide)
    obtain ⟨p, k, hpn, rfl, hk16, rfl, hfo, hLF4, hY4, hB4, hI4⟩ := hok4 h0
    have hTY4 : g_TY τ p (g_T τ p) := g_fo_TY hwf hpn hLF4 hfo
    have hE4 : g_EM n τ Z4 := hSM4.2.1
    have hz4 : Z4 41 0 = nI n := hSM4.2.2.1
    have hpP := g_P_self hwf hpn
    have hcp : cN (nI p) = p := nI_clamp (by omega)
    have hck : cN (nI k) = k := nI_clamp (by omega)
    refine j_put C 7 (ci := 8) hL tyX8_ok nmX8 rfl 0 (wm_o0 bd c Z4 L) 0 (by decide) f73 rfl rfl (tyX8_ok 0 (by decide)) rfl rfl (Nat.le_of_ble_eq_true rfl) (wm_p40 bd c Z4 L (nI (0))) dX8_find_7 ?_
    refine j_aload_n C 10 0 dX8_find_10 rfl rfl ?_
    refine j_get C 11 (ci := 8) hL rfl 0 (wm_o0 bd c (upR Z4 40 (fun _ => nI (0))) L) 0 (by decide) f73 rfl (v := .int (nI (0))) rfl dX8_find_11 ?_
    refine j_if_le_n C 14 18 (by omega) dX8_find_14 (by decide) (fun _ => ?_) (fun h => absurd h (by omega))
    refine j_aload_n C 18 0 dX8_find_18 rfl rfl ?_
    refine j_iload_n C 19 2 dX8_find_19 rfl rfl ?_
    refine j_callV (mc := 0) (ms := 0) C 20 (c_X8_countAll (jl κ) D bd c (upR Z4 40 (fun _ => nI (0))) L k hwf hpn hE4 hz4 hB4 hI4 hTY4 hk16) gX8_find_X8_countAll rfl rfl rfl hd_X8_countAll (by rw [hR]; exact ⟨Nat.le_of_ble_eq_true rfl, Nat.le_of_ble_eq_true rfl⟩) (ci := 8) rfl 0 (wm_o0 bd c (upR Z4 40 (fun _ => nI (0))) L) rfl (Nat.le_of_ble_eq_true rfl) ⟨Nat.zero_le _, Nat.zero_le _⟩ dX8_find_20 (fun L5 hCN5 => ?_)
    refine j_lload_n C 23 3 dX8_find_23 rfl rfl ?_
    refine j_lconst C 24 (v := lN 0) dX8_find_24 rfl ?_
    refine j_lcmp C 25 dX8_find_25 ?_
    refine j_if_lt C 26 45 dX8_find_26 (by decide) (fun h26 => ?_) (fun h26 => ?_)
    · refine j_aload_n C 45 0 dX8_find_45 rfl rfl ?_
      refine j_iconst C 46 (v := nI 4) dX8_find_46 rfl ?_
      refine j_put C 47 (ci := 8) hL tyX8_ok nmX8 rfl 0 (wm_o0 bd c (upR Z4 40 (fun _ => nI (0))) L5) 0 (by decide) f73 rfl rfl (tyX8_ok 0 (by decide)) rfl rfl (Nat.le_of_ble_eq_true rfl) (wm_p40 bd c (upR Z4 40 (fun _ => nI (0))) L5 (nI (4))) dX8_find_47 ?_
      have hk9 : k_find n τ (nI p) (nI k) l = 4 := by unfold k_find; rw [if_neg (by rw [h0]; decide), if_pos (Or.inl (lg_lt0.mp h26))]
      exact j_vreti C hr E (Nat.le_refl _) (Nat.le_refl _) ((upR (upR Z4 40 (fun _ => nI (0))) 40 (fun _ => nI (4))), L5) ⟨by rw [hk9]; rfl, fun z => absurd z (by rw [hk9]; decide), fun _ => g_SM_40 (g_SM_40 hSM4 _) _⟩ rfl dX8_find_50
    · refine j_lload_n C 29 3 dX8_find_29 rfl rfl ?_
      refine j_aload_n C 30 0 dX8_find_30 rfl rfl ?_
      refine j_get C 31 (ci := 8) hL rfl 0 (wm_o0 bd c (upR Z4 40 (fun _ => nI (0))) L5) 25 (by decide) f63 rfl (v := .ref (bd 17)) rfl dX8_find_31 ?_
      refine j_bipush C 34 (v := nI 17) dX8_find_34 rfl ?_
      refine j_iload_n C 36 1 dX8_find_36 rfl rfl ?_
      refine j_imul_e C 37 dX8_find_37 (pk_mul _ _) ?_
      refine j_iload_n C 38 2 dX8_find_38 rfl rfl ?_
      refine j_iadd_e C 39 dX8_find_39 (nI_add _ _) ?_
      refine j_lald C 40 17 2 (f := L5 17) (wm_a17 bd c (upR Z4 40 (fun _ => nI (0))) L5) rfl (by omega) (by decide) dX8_find_40 ?_
      refine j_eql (vM_at (by omega)) ?_
      refine j_eql (hCN5 p hpP k (by omega)) ?_
      refine j_lcmp C 41 dX8_find_41 ?_
      refine j_if_lt C 42 51 dX8_find_42 (by decide) (fun h42 => ?_) (fun h42 => ?_)
      · have hl0 : lN 0 ≤ l := Decidable.of_not_not (fun z => h26 (lg_lt0.mpr z))
        have hlc : ¬ lN (g_c τ p p k) ≤ l := lg_lt0.mp h42
        have hkf : k_find n τ (nI p) (nI k) l = 0 := by unfold k_find; rw [if_neg (by rw [h0]; decide), if_neg (by rw [hcp, hck]; exact fun z => z.elim (fun z => z hl0) hlc)]
        obtain ⟨q0, hq63, rfl⟩ := pk_lOf (Int64.not_lt.mpr hl0)
        have hcs : g_c τ p p k < 2 ^ 63 := by
          have a := g_c_le hwf hpn hTY4 hpP k
          have b : 8 ^ k ≤ 8 ^ 16 := Nat.pow_le_pow_right (by decide) hk16
          omega
        have hqc : q0 < g_c τ p p k := by
          rw [pk_lLE hcs hq63] at hlc
          omega
        have hwf9 : w_find τ (nI p) (nI k) (lN q0) = g_sw τ p (g_T τ p) k [p] q0 := by unfold w_find; rw [hcp, hck, pk_lT hq63]; rfl
        refine j_lload_n C 51 3 dX8_find_51 rfl rfl ?_
        refine j_lstore C 52 (lv' := [(5, .long (lN q0)), (0, .ref (bd 0)), (1, .int (nI (p))), (2, .int (nI (k))), (3, .long (lN q0))]) dX8_find_52 (by rw [hn]; decide) rfl ?_
        refine j_aload_n C 54 1 dX8_find_54 rfl rfl ?_
        refine j_iload_n C 55 2 dX8_find_55 rfl rfl ?_
        refine j_callV (mc := 0) (ms := 0) C 56 (c_X8_beginAt (jl κ) D bd c (upR Z4 40 (fun _ => nI (0))) L5 p) gX8_find_X8_beginAt rfl rfl rfl hd_X8_beginAt (by rw [hR]; exact ⟨Nat.le_of_ble_eq_true rfl, Nat.le_of_ble_eq_true rfl⟩) (ci := 8) rfl 0 (wm_o0 bd c (upR Z4 40 (fun _ => nI (0))) L5) rfl (Nat.le_of_ble_eq_true rfl) ⟨Nat.zero_le _, Nat.zero_le _⟩ dX8_find_56 (fun _ _ => ?_)
        refine j_iconst C 59 (v := nI 0) dX8_find_59 rfl ?_
        refine j_istore C 60 (lv' := [(7, .int (nI (0))), (5, .long (lN q0)), (0, .ref (bd 0)), (1, .int (nI (p))), (2, .int (nI (k))), (3, .long (lN q0))]) dX8_find_60 (by rw [hn]; decide) rfl ?_
        have letters : ∀ m i (σ pre : List Nat) (q v0 : Nat) (Z1 : ZT) (L1 : LT), m + i = k → Z1 47 0 = nI σ.length → g_ar (Z1 15) 0 σ.reverse → Z1 45 0 = nI 0 → g_I τ p (g_T τ p) σ i v0 → pre.length = i → g_ar (Z1 12) 0 pre → (∀ u, u ∈ pre → u < 8) → q < g_N τ p σ (k - i) → pre ++ g_sw τ p (g_T τ p) (k - i) σ q = g_sw τ p (g_T τ p) k [p] q0 → g_fr [12, 14, 15, 16, 40, 45, 46, 47, 48] Z4 Z1 → Z1 40 0 = nI 0 → g_CN τ p (k + 1) (vM L1) → ∀ lv, lv_pick lv [0, 1, 2, 3, 4] = [(7, .int (nI i)), (5, .long (lN q)), (0, .ref (bd 0)), (1, .int (nI p)), (2, .int (nI k))] → J D κ 0 0 62 lv [] (wm bd c Z1 L1) := by
          intro m
          induction m with
          | zero =>
            intro i σ pre q v0 Z1 L1 hm h47 h15 h45 hI hpl hpa hp8 hq hw hfr h40 hCN lv hlv
            obtain rfl : i = k := by omega
            refine j_lv [0, 1, 2, 3, 4] hlv ?_
            refine j_iload C 62 0 dX8_find_62 rfl ?_
            refine j_iload_n C 64 4 dX8_find_64 rfl rfl ?_
            refine j_icmp_ge_n C 65 166 (by omega) (by omega) dX8_find_65 (by decide) (fun _ => ?_) (fun h => absurd h (by omega))
            refine j_aload_n C 166 2 dX8_find_166 rfl rfl ?_
            refine j_iload_n C 167 4 dX8_find_167 rfl rfl ?_
            refine j_put C 168 (ci := 8) hL tyX8_ok nmX8 rfl 0 (wm_o0 bd c Z1 L1) 13 (by decide) f113 rfl rfl (tyX8_ok 13 (by decide)) rfl rfl (Nat.le_of_ble_eq_true rfl) (wm_p42 bd c Z1 L1 (nI (i))) dX8_find_168 ?_
            have hpw : w_find τ (nI p) (nI i) (lN q0) = pre := by
              rw [hwf9, ← hw, Nat.sub_self]
              exact List.append_nil pre
            exact j_vreti C hr E (Nat.le_refl _) (Nat.le_refl _) ((upR Z1 42 (fun _ => nI (i))), L1) ⟨by rw [hkf]; exact h40, fun _ => by rw [hpw]; exact g_SM_w (ks := [12, 14, 15, 16, 40, 42, 45, 46, 47, 48]) hSM4 (g_fr_up (g_fr_sub hfr (by decide)) (by decide) _) (by decide) ⟨by omega, by rw [hpl]; rfl, hpa, hp8⟩, fun z => absurd hkf z⟩ rfl dX8_find_171
          | succ m ihL =>
            intro i σ pre q v0 Z1 L1 hm h47 h15 h45 hI hpl hpa hp8 hq hw hfr h40 hCN lv hlv
            have hik : i < k := by omega
            have hIl := g_I_le hwf hpn hI
            obtain ⟨r, hr9⟩ : ∃ r, r = k - i - 1 := ⟨_, rfl⟩
            have hk1 : k - i = r + 1 := by omega
            have hsep := hI.2.1
            have hσP := hI.1
            rw [hk1] at hq hw
            have hNs : g_N τ p σ (r + 1) < 2 ^ 63 := g_N_small hwf hpn hTY4 hσP hsep (by omega)
            have hq8 : q < g_sp (fun y => (fun x => g_Nx τ p (g_T τ p) x σ (k - i - 1)) (0 + y)) 8 := by
              have z := hq
              rw [g_cons hwf hpn hTY4 _ σ hσP hsep (Nat.le_refl _) r] at z
              rw [hr9] at z
              simpa using z
            refine j_lv [0, 1, 2, 3, 4] hlv ?_
            -- the letters one by one
            have tries : ∀ m x (q1 : Nat) (Z2 : ZT) (L2 : LT), m + x = 8 → g_pk (fun x => g_Nx τ p (g_T τ p) x σ (k - i - 1)) m x q1 = g_pk (fun x => g_Nx τ p (g_T τ p) x σ (k - i - 1)) 8 0 q → q1 ≤ q → q1 < g_sp (fun y => (fun x => g_Nx τ p (g_T τ p) x σ (k - i - 1)) (x + y)) m → Z2 47 0 = nI σ.length → g_ar (Z2 15) 0 σ.reverse → Z2 45 0 = nI 0 → Z2 48 0 = nI σ.length → g_ar (Z2 16) 0 σ.reverse → g_ar (Z2 12) 0 pre → g_fr [12, 14, 15, 16, 40, 45, 46, 47, 48] Z4 Z2 → Z2 40 0 = nI 0 → g_CN τ p (k + 1) (vM L2) → ∀ lv, lv_pick lv [0, 1, 2, 3, 4, 5, 6] = [(9, .int (nI 0)), (8, .int (nI x)), (7, .int (nI i)), (5, .long (lN q1)), (0, .ref (bd 0)), (1, .int (nI p)), (2, .int (nI k))] → J D κ 0 0 78 lv [] (wm bd c Z2 L2) := by
              intro m
              induction m with
              | zero => intro x q1 Z2 L2 hm2 hpk hq1 hs; exact absurd hs (Nat.not_lt_zero _)
              | succ m ihT =>
                intro x q1 Z2 L2 hm2 hpk hq1 hs h47 h15 h45 h48 h16 hpa2 hfr2 h402 hCN2 lv hlv
                have hx8 : x < 8 := by omega
                obtain ⟨vis, hvis⟩ := nI_ex (Z2 46 0)
                have hSM2 : g_SM n τ w st tr Z4 := hSM4
                have hE2 : g_EM n τ Z2 := g_EM_fr hfr2 (by decide) hE4
                have hB2 : g_BM τ p Z2 := g_BM_fr hfr2 (by decide) hB4
                have hY2 : g_YM τ p (g_T τ p) Z2 := g_YM_fr hfr2 (by decide) hY4
                refine j_lv [0, 1, 2, 3, 4, 5, 6] hlv ?_
                refine j_iload C 78 0 dX8_find_78 rfl ?_
                refine j_if_ne_n C 80 146 (by omega) dX8_find_80 (by decide) (fun h => absurd h (by omega)) (fun _ => ?_)
                refine j_aload_n C 83 4 dX8_find_83 rfl rfl ?_
                refine j_iload C 84 1 dX8_find_84 rfl ?_
                refine j_callI (mc := 0) (ms := 0) C 86 (c_X8_go (jl κ) D bd c Z2 L2 (g_T τ p) x (nI x) (vis + 2016) vis σ [] (fun σ1 v l => ∃ v', g_I τ p (g_T τ p) σ1 i v' ∧ l.length ≤ v' ∧ v + v0 = vis + v' ∧ g_run τ p (g_T τ p) x σ1 = g_run τ p (g_T τ p) x σ) hwf hpn hE2 hB2 hY2 hTY4 (by rw [if_pos hx8]) (by omega) ⟨h47, h15, hvis, h45, fun j hj => by cases hj⟩ ⟨v0, hI, Nat.zero_le _, rfl, rfl⟩ (fun t1 σ1 v1 l1 z h0 => by obtain ⟨v', z1, z2, z3, z4⟩ := z; exact ⟨v' + 1, g_I_st hwf hpn hTY4 _ z1 h0, Nat.le_trans (g_l2 _ _) (by omega), by omega, by rw [← z4, g_run_cons hwf hpn hTY4 x z1.1, if_pos h0]⟩) (fun σ1 v1 l1 z => by obtain ⟨v', z1, z2, z3, z4⟩ := z; have := g_I_le hwf hpn z1; exact ⟨by omega, by omega, by omega, z1.1⟩)) gX8_find_X8_go rfl rfl rfl hd_X8_go (by rw [hR]; exact ⟨Nat.le_of_ble_eq_true rfl, Nat.le_of_ble_eq_true rfl⟩) (ci := 8) rfl 0 (wm_o0 bd c Z2 L2) rfl (Nat.le_of_ble_eq_true rfl) ⟨Nat.zero_le _, Nat.zero_le _⟩ dX8_find_86 (fun r86 Z3 q86 => ?_)
                obtain ⟨⟨σ2, v2, l2, ⟨v3, hI2, hl2, hv2, hrun⟩, hcs⟩, hfrg⟩ := q86
                have hfr3 : g_fr [12, 14, 15, 16, 40, 45, 46, 47, 48] Z4 Z3 := g_fr_trans hfr2 (g_fr_sub hfrg (by decide))
                have h403 : Z3 40 0 = nI 0 := (congrFun (hfrg 40 (by decide)) 0).trans h402
                have h483 : Z3 48 0 = nI σ.length := (congrFun (hfrg 48 (by decide)) 0).trans h48
                have h163 : g_ar (Z3 16) 0 σ.reverse := by rw [hfrg 16 (by decide)]; exact h16
                have hpa3 : g_ar (Z3 12) 0 pre := by rw [hfrg 12 (by decide)]; exact hpa2
                rcases hcs with ⟨rfl, er, -⟩ | ⟨t2, σ3, rfl, hs2, er, hM3⟩ | ⟨t2, σ3, rfl, hs2, er⟩
                · have hFx : g_Nx τ p (g_T τ p) x σ (k - i - 1) = 0 := by unfold g_Nx; rw [← hrun, g_run_nil]; rfl
                  refine j_eqi (y := nI 0) er ?_
                  refine j_iconst C 89 (v := nI 1) dX8_find_89 rfl ?_
                  refine j_icmp_ne_n C 90 106 (by omega) (by omega) dX8_find_90 (by decide) (fun _ => ?_) (fun h => absurd h (by omega))
                  refine j_lconst C 106 (v := lN 0) dX8_find_106 rfl ?_
                  refine j_lstore C 107 (lv' := [(10, .long (lN 0)), (9, .int (nI (0))), (8, .int (nI (x))), (7, .int (nI (i))), (5, .long (lN q1)), (0, .ref (bd 0)), (1, .int (nI (p))), (2, .int (nI (k)))]) dX8_find_107 (by rw [hn]; decide) rfl ?_
                  refine j_lload C 109 4 dX8_find_109 rfl ?_
                  refine j_lload C 111 0 dX8_find_111 rfl ?_
                  refine j_lcmp C 113 dX8_find_113 ?_
                  refine j_if_ge C 114 121 dX8_find_114 (by decide) (fun h114 => ?_) (fun h114 => ?_)
                  · refine j_iconst C 121 (v := nI 0) dX8_find_121 rfl ?_
                    refine j_istore C 122 (lv' := [(9, .int (nI (0))), (10, .long (lN 0)), (8, .int (nI (x))), (7, .int (nI (i))), (5, .long (lN q1)), (0, .ref (bd 0)), (1, .int (nI (p))), (2, .int (nI (k)))]) dX8_find_122 (by rw [hn]; decide) rfl ?_
                    refine j_iload C 124 0 dX8_find_124 rfl ?_
                    refine j_if_ne_n C 126 143 (by omega) dX8_find_126 (by decide) (fun h => absurd h (by omega)) (fun _ => ?_)
                    refine j_lload C 129 4 dX8_find_129 rfl ?_
                    refine j_lload C 131 1 dX8_find_131 rfl ?_
                    refine j_lsub C 133 dX8_find_133 ?_
                    have hle : 0 ≤ q1 := Nat.zero_le _
                    refine j_eql (lN_sub hle) ?_
                    refine j_lstore C 134 (lv' := [(5, .long (lN (q1 - 0))), (9, .int (nI (0))), (10, .long (lN 0)), (8, .int (nI (x))), (7, .int (nI (i))), (0, .ref (bd 0)), (1, .int (nI (p))), (2, .int (nI (k)))]) dX8_find_134 (by rw [hn]; decide) rfl ?_
                    refine j_aload_n C 136 5 dX8_find_136 rfl rfl ?_
                    refine j_callV (mc := 0) (ms := 0) C 137 (c_X8_back (jl κ) D bd c Z3 L2 σ.reverse (by rw [List.length_reverse]; exact h483) h163 (by rw [List.length_reverse]; omega)) gX8_find_X8_back rfl rfl rfl hd_X8_back (by rw [hR]; exact ⟨Nat.le_of_ble_eq_true rfl, Nat.le_of_ble_eq_true rfl⟩) (ci := 8) rfl 0 (wm_o0 bd c Z3 L2) rfl (Nat.le_of_ble_eq_true rfl) ⟨Nat.zero_le _, Nat.zero_le _⟩ dX8_find_137 (fun Z5 q137 => ?_)
                    obtain ⟨g47, g15, g45, hfr5⟩ := q137
                    rw [List.length_reverse] at g47
                    have hfr6 : g_fr [12, 14, 15, 16, 40, 45, 46, 47, 48] Z4 Z5 := g_fr_trans hfr3 (g_fr_sub hfr5 (by decide))
                    refine j_iinc C 140 3 (v := (nI (x + 1))) (lv' := [(8, .int (nI (x + 1))), (5, .long (lN (q1 - 0))), (9, .int (nI (0))), (10, .long (lN 0)), (7, .int (nI (i))), (0, .ref (bd 0)), (1, .int (nI (p))), (2, .int (nI (k)))]) dX8_find_140 rfl (nI_add (x) 1) (by rw [hn]; decide) rfl ?_
                    refine j_goto C 143 78 dX8_find_143 (by decide) ?_
                    have hpk2 : g_pk (fun x => g_Nx τ p (g_T τ p) x σ (k - i - 1)) m (x + 1) (q1 - 0) = g_pk (fun x => g_Nx τ p (g_T τ p) x σ (k - i - 1)) 8 0 q := by rw [← hpk]; exact (g_pk_no (f := (fun x => g_Nx τ p (g_T τ p) x σ (k - i - 1))) hFx (by omega)).symm
                    have hs5 := g_sp_next (f := (fun x => g_Nx τ p (g_T τ p) x σ (k - i - 1))) hFx hs (by omega)
                    exact j_lv [2, 0, 4, 1, 5, 6, 7] rfl (ihT (x + 1) (q1 - 0) Z5 L2 (by omega) hpk2 (by omega) hs5 g47 g15 g45 ((congrFun (hfr5 48 (by decide)) 0).trans h483) (by rw [hfr5 16 (by decide)]; exact h163) (by rw [hfr5 12 (by decide)]; exact hpa3) hfr6 ((congrFun (hfr5 40 (by decide)) 0).trans h403) hCN2 _ rfl)
                  · exact absurd ((lg_cmp_ge _ _).mpr ((pk_lLE (by decide) (by omega)).mpr (Nat.zero_le _))) h114
                · have hr3 : g_run τ p (g_T τ p) x σ = (1, σ3) := by rw [← hrun, g_run_cons hwf hpn hTY4 x hI2.1, hs2]; rfl
                  have hFx : g_Nx τ p (g_T τ p) x σ (k - i - 1) = g_N τ p σ3 (k - i - 1) := by unfold g_Nx; rw [hr3]; rfl
                  have hI3 : g_I τ p (g_T τ p) σ3 (i + 1) (v3 + 1) := by have z := g_I_let hwf hpn hTY4 x hI2 (by rw [hs2]); rw [hs2] at z; exact z
                  have hI3l := g_I_le hwf hpn hI3
                  have hN3 : g_N τ p σ3 (k - i - 1) < 2 ^ 63 := g_N_small hwf hpn hTY4 hI3.1 hI3.2.1 (by omega)
                  refine j_eqi (y := nI 1) er ?_
                  refine j_iconst C 89 (v := nI 1) dX8_find_89 rfl ?_
                  refine j_icmp_ne_n C 90 106 (by omega) (by omega) dX8_find_90 (by decide) (fun h => absurd h (by omega)) (fun _ => ?_)
                  refine j_aload_n C 93 4 dX8_find_93 rfl rfl ?_
                  refine j_iload_n C 94 6 dX8_find_94 rfl rfl ?_
                  refine j_iload C 95 2 dX8_find_95 rfl ?_
                  refine j_isub_e C 97 dX8_find_97 (pk_sub (by omega)) ?_
                  refine j_iconst C 98 (v := nI 1) dX8_find_98 rfl ?_
                  refine j_isub_e C 99 dX8_find_99 (pk_sub (by omega)) ?_
                  refine j_callL (mc := 0) (ms := 0) C 100 (c_X8_countOpen (jl κ) D bd c Z3 L2 (K := k) (k - i - 1) σ3.reverse hwf hpn (by rw [List.length_reverse]; exact hM3.1) hM3.2.1 (by rw [List.length_reverse]; omega) (fun u hu => hI3.1 u (List.mem_reverse.mp hu)) hCN2 (by omega) hk16) gX8_find_X8_countOpen rfl rfl rfl hd_X8_countOpen (by rw [hR]; exact ⟨Nat.le_of_ble_eq_true rfl, Nat.le_of_ble_eq_true rfl⟩) (ci := 8) rfl 0 (wm_o0 bd c Z3 L2) rfl (Nat.le_of_ble_eq_true rfl) ⟨Nat.zero_le _, Nat.zero_le _⟩ dX8_find_100 (fun r100 L3 q100 => ?_)
                  refine j_eql (y := lN (g_N τ p σ3 (k - i - 1))) (q100.1.trans (by rw [List.reverse_reverse])) ?_
                  have hCN3 : g_CN τ p (k + 1) (vM L3) := by rw [vM_fl q100.2]; exact hCN2
                  refine j_goto C 103 107 dX8_find_103 (by decide) ?_
                  refine j_lstore C 107 (lv' := [(10, .long (lN (g_N τ p σ3 (k - i - 1)))), (9, .int (nI (0))), (8, .int (nI (x))), (7, .int (nI (i))), (5, .long (lN q1)), (0, .ref (bd 0)), (1, .int (nI (p))), (2, .int (nI (k)))]) dX8_find_107 (by rw [hn]; decide) rfl ?_
                  refine j_lload C 109 4 dX8_find_109 rfl ?_
                  refine j_lload C 111 0 dX8_find_111 rfl ?_
                  refine j_lcmp C 113 dX8_find_113 ?_
                  refine j_if_ge C 114 121 dX8_find_114 (by decide) (fun h114 => ?_) (fun h114 => ?_)
                  · refine j_iconst C 121 (v := nI 0) dX8_find_121 rfl ?_
                    refine j_istore C 122 (lv' := [(9, .int (nI (0))), (10, .long (lN (g_N τ p σ3 (k - i - 1)))), (8, .int (nI (x))), (7, .int (nI (i))), (5, .long (lN q1)), (0, .ref (bd 0)), (1, .int (nI (p))), (2, .int (nI (k)))]) dX8_find_122 (by rw [hn]; decide) rfl ?_
                    refine j_iload C 124 0 dX8_find_124 rfl ?_
                    refine j_if_ne_n C 126 143 (by omega) dX8_find_126 (by decide) (fun h => absurd h (by omega)) (fun _ => ?_)
                    refine j_lload C 129 4 dX8_find_129 rfl ?_
                    refine j_lload C 131 1 dX8_find_131 rfl ?_
                    refine j_lsub C 133 dX8_find_133 ?_
                    have hle : (g_N τ p σ3 (k - i - 1)) ≤ q1 := (pk_lLE hN3 (by omega)).mp ((lg_cmp_ge _ _).mp h114)
                    refine j_eql (lN_sub hle) ?_
                    refine j_lstore C 134 (lv' := [(5, .long (lN (q1 - (g_N τ p σ3 (k - i - 1))))), (9, .int (nI (0))), (10, .long (lN (g_N τ p σ3 (k - i - 1)))), (8, .int (nI (x))), (7, .int (nI (i))), (0, .ref (bd 0)), (1, .int (nI (p))), (2, .int (nI (k)))]) dX8_find_134 (by rw [hn]; decide) rfl ?_
                    refine j_aload_n C 136 5 dX8_find_136 rfl rfl ?_
                    refine j_callV (mc := 0) (ms := 0) C 137 (c_X8_back (jl κ) D bd c Z3 L3 σ.reverse (by rw [List.length_reverse]; exact h483) h163 (by rw [List.length_reverse]; omega)) gX8_find_X8_back rfl rfl rfl hd_X8_back (by rw [hR]; exact ⟨Nat.le_of_ble_eq_true rfl, Nat.le_of_ble_eq_true rfl⟩) (ci := 8) rfl 0 (wm_o0 bd c Z3 L3) rfl (Nat.le_of_ble_eq_true rfl) ⟨Nat.zero_le _, Nat.zero_le _⟩ dX8_find_137 (fun Z5 q137 => ?_)
                    obtain ⟨g47, g15, g45, hfr5⟩ := q137
                    rw [List.length_reverse] at g47
                    have hfr6 : g_fr [12, 14, 15, 16, 40, 45, 46, 47, 48] Z4 Z5 := g_fr_trans hfr3 (g_fr_sub hfr5 (by decide))
                    refine j_iinc C 140 3 (v := (nI (x + 1))) (lv' := [(8, .int (nI (x + 1))), (5, .long (lN (q1 - (g_N τ p σ3 (k - i - 1))))), (9, .int (nI (0))), (10, .long (lN (g_N τ p σ3 (k - i - 1)))), (7, .int (nI (i))), (0, .ref (bd 0)), (1, .int (nI (p))), (2, .int (nI (k)))]) dX8_find_140 rfl (nI_add (x) 1) (by rw [hn]; decide) rfl ?_
                    refine j_goto C 143 78 dX8_find_143 (by decide) ?_
                    have hpk2 : g_pk (fun x => g_Nx τ p (g_T τ p) x σ (k - i - 1)) m (x + 1) (q1 - (g_N τ p σ3 (k - i - 1))) = g_pk (fun x => g_Nx τ p (g_T τ p) x σ (k - i - 1)) 8 0 q := by rw [← hpk]; exact (g_pk_no (f := (fun x => g_Nx τ p (g_T τ p) x σ (k - i - 1))) hFx (by omega)).symm
                    have hs5 := g_sp_next (f := (fun x => g_Nx τ p (g_T τ p) x σ (k - i - 1))) hFx hs (by omega)
                    exact j_lv [2, 0, 4, 1, 5, 6, 7] rfl (ihT (x + 1) (q1 - (g_N τ p σ3 (k - i - 1))) Z5 L3 (by omega) hpk2 (by omega) hs5 g47 g15 g45 ((congrFun (hfr5 48 (by decide)) 0).trans h483) (by rw [hfr5 16 (by decide)]; exact h163) (by rw [hfr5 12 (by decide)]; exact hpa3) hfr6 ((congrFun (hfr5 40 (by decide)) 0).trans h403) hCN3 _ rfl)
                  · refine j_iconst C 117 (v := nI 1) dX8_find_117 rfl ?_
                    refine j_goto C 118 122 dX8_find_118 (by decide) ?_
                    refine j_istore C 122 (lv' := [(9, .int (nI (1))), (10, .long (lN (g_N τ p σ3 (k - i - 1)))), (8, .int (nI (x))), (7, .int (nI (i))), (5, .long (lN q1)), (0, .ref (bd 0)), (1, .int (nI (p))), (2, .int (nI (k)))]) dX8_find_122 (by rw [hn]; decide) rfl ?_
                    refine j_iload C 124 0 dX8_find_124 rfl ?_
                    refine j_if_ne_n C 126 143 (by omega) dX8_find_126 (by decide) (fun _ => ?_) (fun h => absurd h (by omega))
                    refine j_goto C 143 78 dX8_find_143 (by decide) ?_
                    refine j_iload C 78 0 dX8_find_78 rfl ?_
                    refine j_if_ne_n C 80 146 (by omega) dX8_find_80 (by decide) (fun _ => ?_) (fun h => absurd h (by omega))
                    refine j_aload_n C 146 5 dX8_find_146 rfl rfl ?_
                    refine j_get C 147 (ci := 8) hL rfl 0 (wm_o0 bd c Z3 L3) 14 (by decide) f44 rfl (v := .ref (bd 12)) rfl dX8_find_147 ?_
                    refine j_iload C 150 3 dX8_find_150 rfl ?_
                    refine j_iload C 152 2 dX8_find_152 rfl ?_
                    refine j_iast C 154 12 0 (f := Z3 12) (wm_a12 bd c Z3 L3) rfl (by omega) (by decide) (wm_s12 bd c Z3 L3 (upd (Z3 12) (i) (nI (x)))) dX8_find_154 ?_
                    refine j_aload_n C 155 5 dX8_find_155 rfl rfl ?_
                    refine j_iconst C 156 (v := nI 0) dX8_find_156 rfl ?_
                    refine j_put C 157 (ci := 8) hL tyX8_ok nmX8 rfl 0 (wm_o0 bd c (upR Z3 12 (upd (Z3 12) (i) (nI (x)))) L3) 18 (by decide) f126 rfl rfl (tyX8_ok 18 (by decide)) rfl rfl (Nat.le_of_ble_eq_true rfl) (wm_p45 bd c (upR Z3 12 (upd (Z3 12) (i) (nI (x)))) L3 (nI (0))) dX8_find_157 ?_
                    refine j_iinc C 160 3 (v := (nI (i + 1))) (lv' := [(7, .int (nI (i + 1))), (9, .int (nI (1))), (10, .long (lN (g_N τ p σ3 (k - i - 1)))), (8, .int (nI (x))), (5, .long (lN q1)), (0, .ref (bd 0)), (1, .int (nI (p))), (2, .int (nI (k)))]) dX8_find_160 rfl (nI_add (i) 1) (by rw [hn]; decide) rfl ?_
                    refine j_goto C 163 62 dX8_find_163 (by decide) ?_
                    have hlt : q1 < g_N τ p σ3 (k - i - 1) := Nat.lt_of_not_le (fun z => h114 ((lg_cmp_ge _ _).mpr ((pk_lLE hN3 (by omega)).mpr z)))
                    have hpk3 : g_pk (fun x => g_Nx τ p (g_T τ p) x σ (k - i - 1)) 8 0 q = (x, q1) := by rw [← hpk]; exact g_pk_yes (f := (fun x => g_Nx τ p (g_T τ p) x σ (k - i - 1))) (by show q1 < g_Nx τ p (g_T τ p) x σ (k - i - 1); rw [hFx]; exact hlt)
                    have hsw : g_sw τ p (g_T τ p) (r + 1) σ q = x :: g_sw τ p (g_T τ p) (k - (i + 1)) σ3 q1 := by
                      have e1 : k - (i + 1) = r := by omega
                      rw [← hr9] at hpk3
                      show (g_pk (fun x => g_Nx τ p (g_T τ p) x σ r) 8 0 q).1 :: g_sw τ p (g_T τ p) r (g_run τ p (g_T τ p) (g_pk (fun x => g_Nx τ p (g_T τ p) x σ r) 8 0 q).1 σ).2 (g_pk (fun x => g_Nx τ p (g_T τ p) x σ r) 8 0 q).2 = _
                      rw [hpk3, hr3, e1]
                    exact j_lv [0, 4, 5, 6, 7] rfl (ihL (i + 1) σ3 (pre ++ [x]) q1 (v3 + 1) (upR (upR Z3 12 (upd (Z3 12) (i) (nI (x)))) 45 (fun _ => nI (0))) L3 (by omega) hM3.1 hM3.2.1 rfl hI3 (by rw [List.length_append, hpl]; rfl) (g_ar_push hpa3 hpl.symm) (fun u hu => (List.mem_append.mp hu).elim (hp8 u) (fun z => by rw [List.mem_singleton.mp z]; exact hx8)) hlt (by rw [List.append_assoc]; show pre ++ (x :: g_sw τ p (g_T τ p) (k - (i + 1)) σ3 q1) = _; rw [← hsw]; exact hw) (g_fr_up (g_fr_up hfr3 (by decide) _) (by decide) _) h403 hCN3 _ rfl)
                · have hrr : (g_run τ p (g_T τ p) x (t2 :: σ3)).1 = 2 := by rw [g_run_cons hwf hpn hTY4 x hI2.1, if_neg (by rw [hs2]; decide)]; exact hs2
                  have hFx : g_Nx τ p (g_T τ p) x σ (k - i - 1) = 0 := by unfold g_Nx; rw [← hrun, if_neg (by rw [hrr]; decide)]
                  refine j_eqi (y := -1) er ?_
                  refine j_iconst C 89 (v := nI 1) dX8_find_89 rfl ?_
                  refine j_icmp_ne C 90 106 dX8_find_90 (by decide) (fun _ => ?_) (fun h => absurd h (by decide))
                  refine j_lconst C 106 (v := lN 0) dX8_find_106 rfl ?_
                  refine j_lstore C 107 (lv' := [(10, .long (lN 0)), (9, .int (nI (0))), (8, .int (nI (x))), (7, .int (nI (i))), (5, .long (lN q1)), (0, .ref (bd 0)), (1, .int (nI (p))), (2, .int (nI (k)))]) dX8_find_107 (by rw [hn]; decide) rfl ?_
                  refine j_lload C 109 4 dX8_find_109 rfl ?_
                  refine j_lload C 111 0 dX8_find_111 rfl ?_
                  refine j_lcmp C 113 dX8_find_113 ?_
                  refine j_if_ge C 114 121 dX8_find_114 (by decide) (fun h114 => ?_) (fun h114 => ?_)
                  · refine j_iconst C 121 (v := nI 0) dX8_find_121 rfl ?_
                    refine j_istore C 122 (lv' := [(9, .int (nI (0))), (10, .long (lN 0)), (8, .int (nI (x))), (7, .int (nI (i))), (5, .long (lN q1)), (0, .ref (bd 0)), (1, .int (nI (p))), (2, .int (nI (k)))]) dX8_find_122 (by rw [hn]; decide) rfl ?_
                    refine j_iload C 124 0 dX8_find_124 rfl ?_
                    refine j_if_ne_n C 126 143 (by omega) dX8_find_126 (by decide) (fun h => absurd h (by omega)) (fun _ => ?_)
                    refine j_lload C 129 4 dX8_find_129 rfl ?_
                    refine j_lload C 131 1 dX8_find_131 rfl ?_
                    refine j_lsub C 133 dX8_find_133 ?_
                    have hle : 0 ≤ q1 := Nat.zero_le _
                    refine j_eql (lN_sub hle) ?_
                    refine j_lstore C 134 (lv' := [(5, .long (lN (q1 - 0))), (9, .int (nI (0))), (10, .long (lN 0)), (8, .int (nI (x))), (7, .int (nI (i))), (0, .ref (bd 0)), (1, .int (nI (p))), (2, .int (nI (k)))]) dX8_find_134 (by rw [hn]; decide) rfl ?_
                    refine j_aload_n C 136 5 dX8_find_136 rfl rfl ?_
                    refine j_callV (mc := 0) (ms := 0) C 137 (c_X8_back (jl κ) D bd c Z3 L2 σ.reverse (by rw [List.length_reverse]; exact h483) h163 (by rw [List.length_reverse]; omega)) gX8_find_X8_back rfl rfl rfl hd_X8_back (by rw [hR]; exact ⟨Nat.le_of_ble_eq_true rfl, Nat.le_of_ble_eq_true rfl⟩) (ci := 8) rfl 0 (wm_o0 bd c Z3 L2) rfl (Nat.le_of_ble_eq_true rfl) ⟨Nat.zero_le _, Nat.zero_le _⟩ dX8_find_137 (fun Z5 q137 => ?_)
                    obtain ⟨g47, g15, g45, hfr5⟩ := q137
                    rw [List.length_reverse] at g47
                    have hfr6 : g_fr [12, 14, 15, 16, 40, 45, 46, 47, 48] Z4 Z5 := g_fr_trans hfr3 (g_fr_sub hfr5 (by decide))
                    refine j_iinc C 140 3 (v := (nI (x + 1))) (lv' := [(8, .int (nI (x + 1))), (5, .long (lN (q1 - 0))), (9, .int (nI (0))), (10, .long (lN 0)), (7, .int (nI (i))), (0, .ref (bd 0)), (1, .int (nI (p))), (2, .int (nI (k)))]) dX8_find_140 rfl (nI_add (x) 1) (by rw [hn]; decide) rfl ?_
                    refine j_goto C 143 78 dX8_find_143 (by decide) ?_
                    have hpk2 : g_pk (fun x => g_Nx τ p (g_T τ p) x σ (k - i - 1)) m (x + 1) (q1 - 0) = g_pk (fun x => g_Nx τ p (g_T τ p) x σ (k - i - 1)) 8 0 q := by rw [← hpk]; exact (g_pk_no (f := (fun x => g_Nx τ p (g_T τ p) x σ (k - i - 1))) hFx (by omega)).symm
                    have hs5 := g_sp_next (f := (fun x => g_Nx τ p (g_T τ p) x σ (k - i - 1))) hFx hs (by omega)
                    exact j_lv [2, 0, 4, 1, 5, 6, 7] rfl (ihT (x + 1) (q1 - 0) Z5 L2 (by omega) hpk2 (by omega) hs5 g47 g15 g45 ((congrFun (hfr5 48 (by decide)) 0).trans h483) (by rw [hfr5 16 (by decide)]; exact h163) (by rw [hfr5 12 (by decide)]; exact hpa3) hfr6 ((congrFun (hfr5 40 (by decide)) 0).trans h403) hCN2 _ rfl)
                  · exact absurd ((lg_cmp_ge _ _).mpr ((pk_lLE (by decide) (by omega)).mpr (Nat.zero_le _))) h114
            refine j_iload C 62 0 dX8_find_62 rfl ?_
            refine j_iload_n C 64 4 dX8_find_64 rfl rfl ?_
            refine j_icmp_ge_n C 65 166 (by omega) (by omega) dX8_find_65 (by decide) (fun h => absurd h (by omega)) (fun _ => ?_)
            refine j_aload_n C 68 2 dX8_find_68 rfl rfl ?_
            refine j_callV (mc := 0) (ms := 0) C 69 (c_X8_keep (jl κ) D bd c Z1 L1 σ.reverse (by rw [List.length_reverse]; exact h47) h15 (by rw [List.length_reverse]; omega)) gX8_find_X8_keep rfl rfl rfl hd_X8_keep (by rw [hR]; exact ⟨Nat.le_of_ble_eq_true rfl, Nat.le_of_ble_eq_true rfl⟩) (ci := 8) rfl 0 (wm_o0 bd c Z1 L1) rfl (Nat.le_of_ble_eq_true rfl) ⟨Nat.zero_le _, Nat.zero_le _⟩ dX8_find_69 (fun Z2 q69 => ?_)
            obtain ⟨g48, g16, hfrk⟩ := q69
            rw [List.length_reverse] at g48
            refine j_iconst C 72 (v := nI 0) dX8_find_72 rfl ?_
            refine j_istore C 73 (lv' := [(8, .int (nI (0))), (7, .int (nI (i))), (5, .long (lN q)), (0, .ref (bd 0)), (1, .int (nI (p))), (2, .int (nI (k)))]) dX8_find_73 (by rw [hn]; decide) rfl ?_
            refine j_iconst C 75 (v := nI 0) dX8_find_75 rfl ?_
            refine j_istore C 76 (lv' := [(9, .int (nI (0))), (8, .int (nI (0))), (7, .int (nI (i))), (5, .long (lN q)), (0, .ref (bd 0)), (1, .int (nI (p))), (2, .int (nI (k)))]) dX8_find_76 (by rw [hn]; decide) rfl ?_
            exact j_lv [0, 1, 2, 3, 4, 5, 6] rfl (tries 8 0 q Z2 L1 rfl rfl (Nat.le_refl _) hq8 ((congrFun (hfrk 47 (by decide)) 0).trans h47) (by rw [hfrk 15 (by decide)]; exact h15) ((congrFun (hfrk 45 (by decide)) 0).trans h45) g48 g16 (by rw [hfrk 12 (by decide)]; exact hpa) (g_fr_trans hfr (g_fr_sub hfrk (by decide))) ((congrFun (hfrk 40 (by decide)) 0).trans h40) hCN _ rfl)
        exact j_lv [0, 1, 2, 3, 4] rfl (letters k 0 [p] [] q0 0 (upR (upR (upR (upR (upR Z4 40 (fun _ => nI (0))) 15 (upd (Z4 15) 0 (nI p))) 47 (fun _ => nI 1)) 46 (fun _ => nI 0)) 45 (fun _ => nI 0)) L5 (by omega) rfl (g_ar_push (l := []) g_ar_nil rfl) rfl (g_I_start hwf hpn) rfl g_ar_nil (fun u hu => by cases hu) (by rw [Nat.sub_zero, g_c_N]; exact hqc) rfl (g_fr_up (g_fr_up (g_fr_up (g_fr_up (g_fr_up g_fr_rfl (by decide) _) (by decide) _) (by decide) _) (by decide) _) (by decide) _) rfl hCN5 _ rfl)
      · refine j_aload_n C 45 0 dX8_find_45 rfl rfl ?_
        refine j_iconst C 46 (v := nI 4) dX8_find_46 rfl ?_
        refine j_put C 47 (ci := 8) hL tyX8_ok nmX8 rfl 0 (wm_o0 bd c (upR Z4 40 (fun _ => nI (0))) L5) 0 (by decide) f73 rfl rfl (tyX8_ok 0 (by decide)) rfl rfl (Nat.le_of_ble_eq_true rfl) (wm_p40 bd c (upR Z4 40 (fun _ => nI (0))) L5 (nI (4))) dX8_find_47 ?_
        have hk9 : k_find n τ (nI p) (nI k) l = 4 := by unfold k_find; rw [if_neg (by rw [h0]; decide), if_pos (Or.inr (by rw [hcp, hck]; exact Decidable.of_not_not (fun z => h42 (lg_lt0.mpr z))))]
        exact j_vreti C hr E (Nat.le_refl _) (Nat.le_refl _) ((upR (upR Z4 40 (fun _ => nI (0))) 40 (fun _ => nI (4))), L5) ⟨by rw [hk9]; rfl, fun z => absurd z (by rw [hk9]; decide), fun _ => g_SM_40 (g_SM_40 hSM4 _) _⟩ rfl dX8_find_50
  · refine j_aload_n C 0 0 dX8_find_0 rfl rfl ?_
    refine j_aload_n C 1 0 dX8_find_1 rfl rfl ?_
    refine j_iload_n C 2 1 dX8_find_2 rfl rfl ?_
    refine j_iload_n C 3 2 dX8_find_3 rfl rfl ?_
    refine j_callI (mc := 0) (ms := 0) C 4 (c_X8_wrongCount (jl κ) D bd c Z L x y hSM) gX8_find_X8_wrongCount rfl rfl rfl hd_X8_wrongCount (by rw [hR]; exact ⟨Nat.le_of_ble_eq_true rfl, Nat.le_of_ble_eq_true rfl⟩) (ci := 8) rfl 0 (wm_o0 bd c Z L) rfl (Nat.le_of_ble_eq_true rfl) ⟨Nat.zero_le _, Nat.zero_le _⟩ dX8_find_4 (fun r4 Z4 q4 => ?_)
    obtain ⟨e4, hfr4, hok4⟩ := q4
    refine j_eqi (y := nI (k_count n τ x y)) (e4.trans (by first | rw [h0] | rfl)) ?_
    have hSM4 : g_SM n τ w st tr Z4 := g_SM_fr hSM hfr4 (by decide)
    refine j_put C 7 (ci := 8) hL tyX8_ok nmX8 rfl 0 (wm_o0 bd c Z4 L) 0 (by decide) f73 rfl rfl (tyX8_ok 0 (by decide)) rfl rfl (Nat.le_of_ble_eq_true rfl) (wm_p40 bd c Z4 L (nI (k_count n τ x y))) dX8_find_7 ?_
    refine j_aload_n C 10 0 dX8_find_10 rfl rfl ?_
    refine j_get C 11 (ci := 8) hL rfl 0 (wm_o0 bd c (upR Z4 40 (fun _ => nI (k_count n τ x y))) L) 0 (by decide) f73 rfl (v := .int (nI (k_count n τ x y))) rfl dX8_find_11 ?_
    refine j_if_le_n C 14 18 (by omega) dX8_find_14 (by decide) (fun h => absurd h (by omega)) (fun _ => ?_)
    have hk9 : k_find n τ x y l = k_count n τ x y := by unfold k_find; rw [if_pos h0]
    exact j_vreti C hr E (Nat.le_refl _) (Nat.le_refl _) ((upR Z4 40 (fun _ => nI (k_count n τ x y))), L) ⟨by rw [hk9]; rfl, fun z => absurd (hk9.symm.trans z) h0, fun _ => g_SM_40 hSM4 _⟩ rfl dX8_find_17
