/-! contracts: Typing.inferTypes, study -/
theorem g_ED_fr {n : Nat} {τ : Tb} {ks : List Nat} {Z Z' : ZT} (h : g_fr ks Z Z') (hk : ∀ k, k ∈ [9, 10, 11, 12, 13, 14] → k ∉ ks) (hE : g_ED n τ Z) : g_ED n τ Z' := by
  unfold g_ED
  rw [h 9 (hk 9 (by decide)), h 10 (hk 10 (by decide)), h 11 (hk 11 (by decide)), h 12 (hk 12 (by decide)), h 13 (hk 13 (by decide)), h 14 (hk 14 (by decide))]
  exact hE
theorem g_BD_fr {τ : Tb} {root : Nat} {ks : List Nat} {Z Z' : ZT} (h : g_fr ks Z Z') (hk : ∀ k, k ∈ [17, 18] → k ∉ ks) (hE : g_BD τ root Z) : g_BD τ root Z' := by
  unfold g_BD
  rw [h 17 (hk 17 (by decide)), h 18 (hk 18 (by decide))]
  exact hE
theorem g_EO_fr {τ : Tb} {root : Nat} {ks : List Nat} {Z Z' : ZT} (h : g_fr ks Z Z') (hk : ∀ k, k ∈ [15, 41] → k ∉ ks) (hE : g_EO τ root Z) : g_EO τ root Z' := by
  unfold g_EO
  rw [h 15 (hk 15 (by decide)), h 41 (hk 41 (by decide))]
  exact hE
theorem g_YD_congr {τ : Tb} {root : Nat} {S S' : TS} {Z : ZT} (h : ∀ t, t ∈ g_P τ root → S t = S' t) (hY : g_YD τ root S Z) : g_YD τ root S' Z := fun t ht => by
  have q := hY t ht
  show Z 19 t = b2 (S' t).1 ∧ Z 20 t = nI (S' t).2.1 ∧ Z 21 t = nI (S' t).2.2 ∧ (S' t).2.1 < 256 ∧ (S' t).2.2 < 256
  rw [← h t ht]
  exact q
set_option maxHeartbeats 4000000 in
set_option maxRecDepth 100000 in
theorem c_X5_inferTypes (ll : Launch) (D : va_G) (ad ro : Nat → Nat) (c : Nat → ClassId) (Z : ZT) (L : LT) {n : Nat} {τ : Tb} {root : Nat} (hwf : g_WF n τ) (hr2 : root < n) (hE : g_ED n τ Z) (hB : g_BD τ root Z) (hO : g_EO τ root Z) : cV (S := ZT) ll yX5_inferTypes vsX5_inferTypes ({ frames := 3, cells := 0, slots := 0, locals := 72 } : Room) D (tysG c) [.ref (ad 2)] (wd ad ro c Z L) (fun Z' => wd ad ro c Z' L) (fun Z' => g_LF τ root (g_T τ root) ∧ g_YD τ root (g_T τ root) Z' ∧ g_fr [19, 20, 21] Z Z') 0 0 := by
  refine cV_start (cc := cX5_inferTypes) (maxL := 4) RX5 rfl (by decide +kernel) rfl (Nat.le_of_ble_eq_true rfl) ?_
  intro κ hlκ C hr _ E hR hn
  subst hlκ
  have hL : ∀ w ∈ u_ws RX5 TX5 9, w.before (ja κ) (js κ) = true := fun w h => C.t w (mX5_inferTypes_wsX50 w h)
  have f34 : (Cond.fieldLink RX5 34 "GuardedGrammar$Typing" (TX5 8).2.1 (TX5 8).2.2.1).before (ja κ) (js κ) = true := C.t (.fieldLink RX5 34 "GuardedGrammar$Typing" "start" "I") (mX5_inferTypes_o _ (by decide +kernel))
  have f9 : (Cond.fieldLink RX5 9 "GuardedGrammar$Typing" (TX5 1).2.1 (TX5 1).2.2.1).before (ja κ) (js κ) = true := C.t (.fieldLink RX5 9 "GuardedGrammar$Typing" "order" "[I") (mX5_inferTypes_o _ (by decide +kernel))
  have f25 : (Cond.fieldLink RX5 25 "GuardedGrammar$Typing" (TX5 5).2.1 (TX5 5).2.2.1).before (ja κ) (js κ) = true := C.t (.fieldLink RX5 25 "GuardedGrammar$Typing" "nullable" "[Z") (mX5_inferTypes_o _ (by decide +kernel))
  have f28 : (Cond.fieldLink RX5 28 "GuardedGrammar$Typing" (TX5 6).2.1 (TX5 6).2.2.1).before (ja κ) (js κ) = true := C.t (.fieldLink RX5 28 "GuardedGrammar$Typing" "firsts" "[I") (mX5_inferTypes_o _ (by decide +kernel))
  have f31 : (Cond.fieldLink RX5 31 "GuardedGrammar$Typing" (TX5 7).2.1 (TX5 7).2.2.1).before (ja κ) (js κ) = true := C.t (.fieldLink RX5 31 "GuardedGrammar$Typing" "afters" "[I") (mX5_inferTypes_o _ (by decide +kernel))
  show J D κ 0 0 0 [(0, .ref (ad 2))] [] (wd ad ro c Z L)
  have h48n := hwf.1
  have hlen := g_P_len hwf hr2
  -- the passes
  have loop2 : ∀ m pass (S : TS) (Z1 : ZT) (ch : Bool), m + pass = 817 → g_low τ root S → g_YD τ root S Z1 → g_fr [19, 20, 21] Z Z1 → (ch = true → pass ≤ g_cnt τ root S) → (ch = false → g_cl τ root S) → ∀ lv, lv_pick lv [0, 1, 2] = [(1, .int (b2 ch)), (2, .int (nI pass)), (0, .ref (ad 2))] → J D κ 0 0 49 lv [] (wd ad ro c Z1 L) := by
    intro m
    induction m with
    | zero =>
      intro pass S Z1 ch hm hlow hY hfr hc1 hc2 lv hlv
      have hle := g_cnt_le hwf hr2 S
      refine j_lv [0, 1, 2] hlv ?_
      cases ch with
      | true => have := hc1 rfl; omega
      | false =>
        have hLF : g_LF τ root S := ⟨hc2 rfl, hlow⟩
        refine j_iload_n C 49 0 (x := b2 false) dX5_inferTypes_49 rfl rfl ?_
        refine j_if_eq_b C 50 (b := false) 100 dX5_inferTypes_50 (by decide) (fun _ => ?_) (fun h => by cases h)
        exact j_vreti C hr E (Nat.le_refl _) (Nat.le_refl _) Z1 ⟨g_T_LF hLF, g_YD_congr (fun t ht => g_T_eq hLF ht) hY, hfr⟩ rfl dX5_inferTypes_100
    | succ m ih =>
      intro pass S Z1 ch hm hlow hY hfr hc1 hc2 lv hlv
      have hle := g_cnt_le hwf hr2 S
      refine j_lv [0, 1, 2] hlv ?_
      cases ch with
      | false =>
        have hLF : g_LF τ root S := ⟨hc2 rfl, hlow⟩
        refine j_iload_n C 49 0 (x := b2 false) dX5_inferTypes_49 rfl rfl ?_
        refine j_if_eq_b C 50 (b := false) 100 dX5_inferTypes_50 (by decide) (fun _ => ?_) (fun h => by cases h)
        exact j_vreti C hr E (Nat.le_refl _) (Nat.le_refl _) Z1 ⟨g_T_LF hLF, g_YD_congr (fun t ht => g_T_eq hLF ht) hY, hfr⟩ rfl dX5_inferTypes_100
      | true =>
        have hcc := hc1 rfl
        -- one pass
        have loop3 : ∀ k i (S2 : TS) (Z2 : ZT) (ch : Bool), k + i = 48 → 48 - (g_P τ root).length ≤ i → g_low τ root S2 → g_YD τ root S2 Z2 → g_fr [19, 20, 21] Z Z2 → g_cnt τ root S ≤ g_cnt τ root S2 → (ch = true → g_cnt τ root S < g_cnt τ root S2) → (ch = false → ∀ j (hj : j < (g_P τ root).length), 48 - (g_P τ root).length + j < i → g_le (g_F τ root S2 (g_P τ root)[j]) (S2 (g_P τ root)[j])) → ∀ lv, lv_pick lv [0, 1, 2, 3] = [(3, .int (nI i)), (1, .int (b2 ch)), (2, .int (nI pass)), (0, .ref (ad 2))] → J D κ 0 0 67 lv [] (wd ad ro c Z2 L) := by
          intro k
          induction k with
          | zero =>
            intro i S2 Z2 ch hk hi hlow hY hfr hcnt hc1 hc2 lv hlv
            refine j_lv [0, 1, 2, 3] hlv ?_
            refine j_iload_n C 67 0 dX5_inferTypes_67 rfl rfl ?_
            refine j_bipush C 68 (v := nI 48) dX5_inferTypes_68 rfl ?_
            refine j_icmp_ge_n C 70 94 (by omega) (by omega) dX5_inferTypes_70 (by decide) (fun _ => ?_) (fun h => absurd h (by omega))
            refine j_iinc C 94 2 (v := nI (pass + 1)) (lv' := [(2, .int (nI (pass + 1))), (3, .int (nI i)), (1, .int (b2 ch)), (0, .ref (ad 2))]) dX5_inferTypes_94 rfl (nI_add pass 1) (by rw [hn]; decide) rfl ?_
            refine j_goto C 97 49 dX5_inferTypes_97 (by decide) ?_
            refine ih (pass + 1) S2 Z2 ch (by omega) hlow hY hfr (fun z => by have := hc1 z; omega) (fun z => ?_) [(1, .int (b2 ch)), (2, .int (nI (pass + 1))), (0, .ref (ad 2))] rfl |> fun q => j_lv [2, 0, 3] rfl q
            intro t ht
            obtain ⟨j, hj, rfl⟩ := List.getElem_of_mem ht
            exact hc2 z j hj (by omega)
          | succ k ihk =>
            intro i S2 Z2 ch hk hi hlow hY hfr hcnt hc1 hc2 lv hlv
            refine j_lv [0, 1, 2, 3] hlv ?_
            have hlt : i - (48 - (g_P τ root).length) < (g_P τ root).length := by omega
            generalize hu : (g_P τ root)[i - (48 - (g_P τ root).length)] = u
            have huP : u ∈ g_P τ root := by rw [← hu]; exact List.getElem_mem hlt
            have hun := g_P_lt hwf hr2 huP
            have hoi : Z2 15 i = nI u := by
              have q := ((g_EO_fr hfr (by decide) hO)).2 (i - (48 - (g_P τ root).length)) hlt
              rw [show 48 - (g_P τ root).length + (i - (48 - (g_P τ root).length)) = i by omega, hu] at q
              exact q
            refine j_iload_n C 67 0 dX5_inferTypes_67 rfl rfl ?_
            refine j_bipush C 68 (v := nI 48) dX5_inferTypes_68 rfl ?_
            refine j_icmp_ge_n C 70 94 (by omega) (by omega) dX5_inferTypes_70 (by decide) (fun h => absurd h (by omega)) (fun _ => ?_)
            refine j_aload_n C 73 3 dX5_inferTypes_73 rfl rfl ?_
            refine j_aload_n C 74 3 dX5_inferTypes_74 rfl rfl ?_
            refine j_get C 75 (ci := 5) hL rfl 2 (wd_o2 ad ro c Z2 L) 1 (by decide) f9 rfl (v := .ref (ad 15)) rfl dX5_inferTypes_75 ?_
            refine j_iload_n C 78 0 dX5_inferTypes_78 rfl rfl ?_
            refine j_iald C 79 15 0 (f := Z2 15) (wd_a15 ad ro c Z2 L) rfl (by omega) (by decide) dX5_inferTypes_79 ?_
            refine j_eqi hoi ?_
            refine j_callI (mc := 0) (ms := 0) C 80 (c_X5_widen (jl κ) D ad ro c Z2 L S2 u hwf hr2 (g_ED_fr hfr (by decide) hE) (g_BD_fr hfr (by decide) hB) hY huP) gX5_inferTypes_X5_widen rfl rfl rfl hd_X5_widen (by rw [hR]; exact ⟨Nat.le_of_ble_eq_true rfl, Nat.le_of_ble_eq_true rfl⟩) (ci := 5) rfl 2 (wd_o2 ad ro c Z2 L) rfl (Nat.le_of_ble_eq_true rfl) ⟨Nat.zero_le _, Nat.zero_le _⟩ dX5_inferTypes_80 (fun r80 Z80 q80 => ?_)
            refine j_eqi q80.1 ?_
            refine j_if_eq_b C 83 88 dX5_inferTypes_83 (by decide) (fun h83 => ?_) (fun h83 => ?_)
            · refine j_iinc C 88 0 (v := (nI (i + 1))) (lv' := [(3, .int (nI (i + 1))), (1, .int (b2 (ch))), (2, .int (nI (pass))), (0, .ref (ad 2))]) dX5_inferTypes_88 rfl (nI_add (i) 1) (by rw [hn]; decide) rfl ?_
              refine j_goto C 91 67 dX5_inferTypes_91 (by decide) ?_
              refine j_lv [0, 1, 2, 3] rfl ?_
              have hsame := Decidable.of_not_not (of_decide_eq_false h83)
              have hS2 : (g_upS S2 u (g_jn (S2 u) (g_F τ root S2 u))) = S2 := by rw [hsame, g_upS_id]
              have qy := q80.2.1
              rw [hS2] at qy
              refine ihk (i + 1) S2 Z80 ch (by omega) (by omega) hlow qy (g_fr_trans hfr q80.2.2) hcnt hc1 (fun z j hj hji => ?_) _ rfl
              by_cases e : j = i - (48 - (g_P τ root).length)
              · subst e
                rw [hu]
                have q := g_jn_r (S2 u) (g_F τ root S2 u)
                rw [hsame] at q
                exact q
              · exact hc2 z j hj (by omega)
            · refine j_iconst C 86 (v := nI 1) dX5_inferTypes_86 rfl ?_
              refine j_eqi (show nI 1 = b2 true from rfl) ?_
              refine j_istore_n C 87 (lv' := [(1, .int (b2 (true))), (3, .int (nI (i))), (2, .int (nI (pass))), (0, .ref (ad 2))]) dX5_inferTypes_87 rfl (by rw [hn]; decide) rfl ?_
              refine j_iinc C 88 1 (v := (nI (i + 1))) (lv' := [(3, .int (nI (i + 1))), (1, .int (b2 (true))), (2, .int (nI (pass))), (0, .ref (ad 2))]) dX5_inferTypes_88 rfl (nI_add (i) 1) (by rw [hn]; decide) rfl ?_
              refine j_goto C 91 67 dX5_inferTypes_91 (by decide) ?_
              refine j_lv [0, 1, 2, 3] rfl ?_
              have hlt2 := g_cnt_lt hwf hr2 huP (g_jn_le _ _) (of_decide_eq_true h83) (hY u huP).2.2.2.1 (hY u huP).2.2.2.2 (g_jn_256 (hY u huP).2.2.2.1 (hY u huP).2.2.2.2 (g_F_256 hwf hr2 hlow huP).1 (g_F_256 hwf hr2 hlow huP).2).1 (g_jn_256 (hY u huP).2.2.2.1 (hY u huP).2.2.2.2 (g_F_256 hwf hr2 hlow huP).1 (g_F_256 hwf hr2 hlow huP).2).2
              exact ihk (i + 1) (g_upS S2 u (g_jn (S2 u) (g_F τ root S2 u))) Z80 true (by omega) (by omega) (g_low_jn hwf hr2 hlow huP) q80.2.1 (g_fr_trans hfr q80.2.2) (by omega) (fun _ => by omega) (fun z => by cases z) _ rfl
        refine j_iload_n C 49 0 (x := b2 true) dX5_inferTypes_49 rfl rfl ?_
        refine j_if_eq_b C 50 (b := true) 100 dX5_inferTypes_50 (by decide) (fun h => by cases h) (fun _ => ?_)
        refine j_iload_n C 53 1 dX5_inferTypes_53 rfl rfl ?_
        refine j_sipush C 54 (v := nI 817) dX5_inferTypes_54 rfl ?_
        refine j_icmp_ge_n C 57 100 (by omega) (by omega) dX5_inferTypes_57 (by decide) (fun h => absurd h (by omega)) (fun _ => ?_)
        refine j_iconst C 60 (v := nI 0) dX5_inferTypes_60 rfl ?_
        refine j_eqi (show nI 0 = b2 false from rfl) ?_
        refine j_istore_n C 61 (lv' := [(1, .int (b2 (false))), (2, .int (nI (pass))), (0, .ref (ad 2))]) dX5_inferTypes_61 rfl (by rw [hn]; decide) rfl ?_
        refine j_aload_n C 62 2 dX5_inferTypes_62 rfl rfl ?_
        refine j_get C 63 (ci := 5) hL rfl 2 (wd_o2 ad ro c Z1 L) 8 (by decide) f34 rfl (v := .int (Z1 41 0)) rfl dX5_inferTypes_63 ?_
        refine j_eqi (g_EO_fr hfr (by decide) hO).1 ?_
        refine j_istore_n C 66 (lv' := [(3, .int (nI (48 - (g_P τ root).length))), (1, .int (b2 (false))), (2, .int (nI (pass))), (0, .ref (ad 2))]) dX5_inferTypes_66 rfl (by rw [hn]; decide) rfl ?_
        refine j_lv [0, 1, 2, 3] rfl ?_
        exact loop3 (g_P τ root).length (48 - (g_P τ root).length) S Z1 false (by omega) (Nat.le_refl _) hlow hY hfr (Nat.le_refl _) (fun z => by cases z) (fun _ j hj hji => by omega) _ rfl
  have loop1 : ∀ m i (Z1 : ZT), m + i = 48 → 48 - (g_P τ root).length ≤ i → g_fr [19, 20, 21] Z Z1 → (∀ j (hj : j < (g_P τ root).length), 48 - (g_P τ root).length + j < i → Z1 19 (g_P τ root)[j] = b2 false ∧ Z1 20 (g_P τ root)[j] = nI 0 ∧ Z1 21 (g_P τ root)[j] = nI 0) → ∀ lv, lv_pick lv [0, 1] = [(1, .int (nI i)), (0, .ref (ad 2))] → J D κ 0 0 5 lv [] (wd ad ro c Z1 L) := by
    intro m
    induction m with
    | zero =>
      intro i Z1 hm hi hfr hz lv hlv
      refine j_lv [0, 1] hlv ?_
      refine j_iload_n C 5 0 dX5_inferTypes_5 rfl rfl ?_
      refine j_bipush C 6 (v := nI 48) dX5_inferTypes_6 rfl ?_
      refine j_icmp_ge_n C 8 45 (by omega) (by omega) dX5_inferTypes_8 (by decide) (fun _ => ?_) (fun h => absurd h (by omega))
      refine j_iconst C 45 (v := nI 1) dX5_inferTypes_45 rfl ?_
      refine j_eqi (show nI 1 = b2 true from rfl) ?_
      refine j_istore_n C 46 (lv' := [(1, .int (b2 (true))), (0, .ref (ad 2))]) dX5_inferTypes_46 rfl (by rw [hn]; decide) rfl ?_
      refine j_iconst C 47 (v := nI 0) dX5_inferTypes_47 rfl ?_
      refine j_istore_n C 48 (lv' := [(2, .int (nI (0))), (1, .int (b2 (true))), (0, .ref (ad 2))]) dX5_inferTypes_48 rfl (by rw [hn]; decide) rfl ?_
      refine j_lv [1, 0, 2] rfl ?_
      refine loop2 817 0 (fun _ => (false, 0, 0)) Z1 true (by omega) g_low_0 (fun t ht => ?_) hfr (fun _ => Nat.zero_le _) (fun z => by cases z) _ rfl
      obtain ⟨j, hj, rfl⟩ := List.getElem_of_mem ht
      have q := hz j hj (by omega)
      exact ⟨q.1, q.2.1, q.2.2, by show (0 : Nat) < 256; decide, by show (0 : Nat) < 256; decide⟩
    | succ m ih =>
      intro i Z1 hm hi hfr hz lv hlv
      refine j_lv [0, 1] hlv ?_
      have hlt : i - (48 - (g_P τ root).length) < (g_P τ root).length := by omega
      generalize hu : (g_P τ root)[i - (48 - (g_P τ root).length)] = u
      have huP : u ∈ g_P τ root := by rw [← hu]; exact List.getElem_mem hlt
      have hun := g_P_lt hwf hr2 huP
      have hoi : Z1 15 i = nI u := by
        have q := ((g_EO_fr hfr (by decide) hO)).2 (i - (48 - (g_P τ root).length)) hlt
        rw [show 48 - (g_P τ root).length + (i - (48 - (g_P τ root).length)) = i by omega, hu] at q
        exact q
      refine j_iload_n C 5 0 dX5_inferTypes_5 rfl rfl ?_
      refine j_bipush C 6 (v := nI 48) dX5_inferTypes_6 rfl ?_
      refine j_icmp_ge_n C 8 45 (by omega) (by omega) dX5_inferTypes_8 (by decide) (fun h => absurd h (by omega)) (fun _ => ?_)
      refine j_aload_n C 11 1 dX5_inferTypes_11 rfl rfl ?_
      refine j_get C 12 (ci := 5) hL rfl 2 (wd_o2 ad ro c Z1 L) 1 (by decide) f9 rfl (v := .ref (ad 15)) rfl dX5_inferTypes_12 ?_
      refine j_iload_n C 15 0 dX5_inferTypes_15 rfl rfl ?_
      refine j_iald C 16 15 0 (f := Z1 15) (wd_a15 ad ro c Z1 L) rfl (by omega) (by decide) dX5_inferTypes_16 ?_
      refine j_eqi hoi ?_
      refine j_istore_n C 17 (lv' := [(2, .int (nI (u))), (1, .int (nI (i))), (0, .ref (ad 2))]) dX5_inferTypes_17 rfl (by rw [hn]; decide) rfl ?_
      refine j_aload_n C 18 2 dX5_inferTypes_18 rfl rfl ?_
      refine j_get C 19 (ci := 5) hL rfl 2 (wd_o2 ad ro c Z1 L) 5 (by decide) f25 rfl (v := .ref (ad 19)) rfl dX5_inferTypes_19 ?_
      refine j_iload_n C 22 0 dX5_inferTypes_22 rfl rfl ?_
      refine j_iconst C 23 (v := nI 0) dX5_inferTypes_23 rfl ?_
      refine j_zast C 24 19 1 (f := Z1 19) (wd_a19 ad ro c Z1 L) rfl (by omega) (by decide) (nb_01 (Or.inl rfl)) (wd_s19 ad ro c Z1 L (upd (Z1 19) (u) (nI (0)))) dX5_inferTypes_24 ?_
      refine j_aload_n C 25 2 dX5_inferTypes_25 rfl rfl ?_
      refine j_get C 26 (ci := 5) hL rfl 2 (wd_o2 ad ro c (upR Z1 19 (upd (Z1 19) (u) (nI (0)))) L) 6 (by decide) f28 rfl (v := .ref (ad 20)) rfl dX5_inferTypes_26 ?_
      refine j_iload_n C 29 0 dX5_inferTypes_29 rfl rfl ?_
      refine j_iconst C 30 (v := nI 0) dX5_inferTypes_30 rfl ?_
      refine j_iast C 31 20 0 (f := Z1 20) (wd_a20 ad ro c (upR Z1 19 (upd (Z1 19) (u) (nI (0)))) L) rfl (by omega) (by decide) (wd_s20 ad ro c (upR Z1 19 (upd (Z1 19) (u) (nI (0)))) L (upd (Z1 20) (u) (nI (0)))) dX5_inferTypes_31 ?_
      refine j_aload_n C 32 2 dX5_inferTypes_32 rfl rfl ?_
      refine j_get C 33 (ci := 5) hL rfl 2 (wd_o2 ad ro c (upR (upR Z1 19 (upd (Z1 19) (u) (nI (0)))) 20 (upd (Z1 20) (u) (nI (0)))) L) 7 (by decide) f31 rfl (v := .ref (ad 21)) rfl dX5_inferTypes_33 ?_
      refine j_iload_n C 36 0 dX5_inferTypes_36 rfl rfl ?_
      refine j_iconst C 37 (v := nI 0) dX5_inferTypes_37 rfl ?_
      refine j_iast C 38 21 0 (f := Z1 21) (wd_a21 ad ro c (upR (upR Z1 19 (upd (Z1 19) (u) (nI (0)))) 20 (upd (Z1 20) (u) (nI (0)))) L) rfl (by omega) (by decide) (wd_s21 ad ro c (upR (upR Z1 19 (upd (Z1 19) (u) (nI (0)))) 20 (upd (Z1 20) (u) (nI (0)))) L (upd (Z1 21) (u) (nI (0)))) dX5_inferTypes_38 ?_
      refine j_iinc C 39 1 (v := (nI (i + 1))) (lv' := [(1, .int (nI (i + 1))), (2, .int (nI (u))), (0, .ref (ad 2))]) dX5_inferTypes_39 rfl (nI_add (i) 1) (by rw [hn]; decide) rfl ?_
      refine j_goto C 42 5 dX5_inferTypes_42 (by decide) ?_
      refine j_lv [0, 2] rfl ?_
      refine ih (i + 1) (upR (upR (upR Z1 19 (upd (Z1 19) (u) (nI (0)))) 20 (upd (Z1 20) (u) (nI (0)))) 21 (upd (Z1 21) (u) (nI (0)))) (by omega) (by omega) (g_fr_up (g_fr_up (g_fr_up hfr (by decide) _) (by decide) _) (by decide) _) (fun j hj hji => ?_) _ rfl
      show upd (Z1 19) u (nI 0) _ = _ ∧ upd (Z1 20) u (nI 0) _ = _ ∧ upd (Z1 21) u (nI 0) _ = _
      by_cases e : (g_P τ root)[j] = u
      · rw [e, e_upd_same, e_upd_same, e_upd_same]; exact ⟨rfl, rfl, rfl⟩
      · rw [e_upd_ne _ _ e, e_upd_ne _ _ e, e_upd_ne _ _ e]
        exact hz j hj (by have : j ≠ i - (48 - (g_P τ root).length) := (fun q => e (by subst q; exact hu)); omega)
  refine j_aload_n C 0 0 dX5_inferTypes_0 rfl rfl ?_
  refine j_get C 1 (ci := 5) hL rfl 2 (wd_o2 ad ro c Z L) 8 (by decide) f34 rfl (v := .int (Z 41 0)) rfl dX5_inferTypes_1 ?_
  refine j_eqi hO.1 ?_
  refine j_istore_n C 4 (lv' := [(1, .int (nI (48 - (g_P τ root).length))), (0, .ref (ad 2))]) dX5_inferTypes_4 rfl (by rw [hn]; decide) rfl ?_
  exact loop1 (g_P τ root).length (48 - (g_P τ root).length) Z (by omega) (Nat.le_refl _) g_fr_rfl (fun j hj hji => by omega) _ rfl
set_option maxHeartbeats 4000000 in
set_option maxRecDepth 100000 in
theorem c_X5_study (ll : Launch) (D : va_G) (ad ro : Nat → Nat) (c : Nat → ClassId) (Z : ZT) (L : LT) {n : Nat} {τ : Tb} (root : Nat) (hwf : g_WF n τ) (hr2 : root < n) (hE : g_ED n τ Z) : cV (S := ZT) ll yX5_study vsX5_study ({ frames := 4, cells := 0, slots := 0, locals := 95 } : Room) D (tysG c) [.ref (ad 2), .int (nI (root))] (wd ad ro c Z L) (fun Z' => wd ad ro c Z' L) (fun Z' => g_ST τ root Z' ∧ g_fr [15, 16, 17, 18, 19, 20, 21, 41] Z Z') 0 0 := by
  refine cV_start (cc := cX5_study) (maxL := 3) RX5 rfl (by decide +kernel) rfl (Nat.le_of_ble_eq_true rfl) ?_
  intro κ hlκ C hr _ E hR hn
  subst hlκ
  have hL : ∀ w ∈ u_ws RX5 TX5 9, w.before (ja κ) (js κ) = true := fun w h => C.t w (mX5_study_wsX50 w h)
  have f34 : (Cond.fieldLink RX5 34 "GuardedGrammar$Typing" (TX5 8).2.1 (TX5 8).2.2.1).before (ja κ) (js κ) = true := C.t (.fieldLink RX5 34 "GuardedGrammar$Typing" "start" "I") (mX5_study_o _ (by decide +kernel))
  have f9 : (Cond.fieldLink RX5 9 "GuardedGrammar$Typing" (TX5 1).2.1 (TX5 1).2.2.1).before (ja κ) (js κ) = true := C.t (.fieldLink RX5 9 "GuardedGrammar$Typing" "order" "[I") (mX5_study_o _ (by decide +kernel))
  show J D κ 0 0 0 [(0, .ref (ad 2)), (1, .int (nI (root)))] [] (wd ad ro c Z L)
  have h48n := hwf.1
  have hlen := g_P_len hwf hr2
  have loop : ∀ m i (Z1 : ZT), m + i = 48 → 48 - (g_P τ root).length ≤ i → g_fr [15, 16, 17, 18, 19, 20, 21, 41] Z Z1 → g_EO τ root Z1 → (∀ j (hj : j < (g_P τ root).length), 48 - (g_P τ root).length + j < i → g_kd τ (g_P τ root)[j] = 5 → (∀ k, g_B τ root (g_sg τ (g_P τ root)[j]) (g_P τ root)[j] = some k → Z1 17 (g_P τ root)[j] = nI k ∧ Z1 18 (g_P τ root)[j] = b2 (g_G τ root (g_sg τ (g_P τ root)[j]) (g_P τ root)[j])) ∧ (g_B τ root (g_sg τ (g_P τ root)[j]) (g_P τ root)[j] = none → Z1 17 (g_P τ root)[j] = -1)) → ∀ lv, lv_pick lv [0, 1, 2] = [(2, .int (nI i)), (0, .ref (ad 2)), (1, .int (nI root))] → J D κ 0 0 10 lv [] (wd ad ro c Z1 L) := by
    intro m
    induction m with
    | zero =>
      intro i Z1 hm hi hfr hO hz lv hlv
      refine j_lv [0, 1, 2] hlv ?_
      have hBD : g_BD τ root Z1 := fun t ht => by
        obtain ⟨j, hj, rfl⟩ := List.getElem_of_mem ht
        exact hz j hj (by omega)
      refine j_iload_n C 10 0 dX5_study_10 rfl rfl ?_
      refine j_bipush C 11 (v := nI 48) dX5_study_11 rfl ?_
      refine j_icmp_ge_n C 13 33 (by omega) (by omega) dX5_study_13 (by decide) (fun _ => ?_) (fun h => absurd h (by omega))
      refine j_aload_n C 33 1 dX5_study_33 rfl rfl ?_
      refine j_callV (mc := 0) (ms := 0) C 34 (c_X5_inferTypes (jl κ) D ad ro c Z1 L hwf hr2 (g_ED_fr hfr (by decide) hE) hBD hO) gX5_study_X5_inferTypes rfl rfl rfl hd_X5_inferTypes (by rw [hR]; exact ⟨Nat.le_of_ble_eq_true rfl, Nat.le_of_ble_eq_true rfl⟩) (ci := 5) rfl 2 (wd_o2 ad ro c Z1 L) rfl (Nat.le_of_ble_eq_true rfl) ⟨Nat.zero_le _, Nat.zero_le _⟩ dX5_study_34 (fun Z34 q34 => ?_)
      exact j_vreti C hr E (Nat.le_refl _) (Nat.le_refl _) Z34 ⟨⟨g_EO_fr q34.2.2 (by decide) hO, g_BD_fr q34.2.2 (by decide) hBD, q34.1, q34.2.1⟩, g_fr_trans hfr (g_fr_sub q34.2.2 (by decide))⟩ rfl dX5_study_37
    | succ m ih =>
      intro i Z1 hm hi hfr hO hz lv hlv
      refine j_lv [0, 1, 2] hlv ?_
      have hlt : i - (48 - (g_P τ root).length) < (g_P τ root).length := by omega
      generalize hu : (g_P τ root)[i - (48 - (g_P τ root).length)] = u
      have huP : u ∈ g_P τ root := by rw [← hu]; exact List.getElem_mem hlt
      have hun := g_P_lt hwf hr2 huP
      have hoi : Z1 15 i = nI u := by
        have q := hO.2 (i - (48 - (g_P τ root).length)) hlt
        rw [show 48 - (g_P τ root).length + (i - (48 - (g_P τ root).length)) = i by omega, hu] at q
        exact q
      refine j_iload_n C 10 0 dX5_study_10 rfl rfl ?_
      refine j_bipush C 11 (v := nI 48) dX5_study_11 rfl ?_
      refine j_icmp_ge_n C 13 33 (by omega) (by omega) dX5_study_13 (by decide) (fun h => absurd h (by omega)) (fun _ => ?_)
      refine j_aload_n C 16 1 dX5_study_16 rfl rfl ?_
      refine j_aload_n C 17 1 dX5_study_17 rfl rfl ?_
      refine j_get C 18 (ci := 5) hL rfl 2 (wd_o2 ad ro c Z1 L) 1 (by decide) f9 rfl (v := .ref (ad 15)) rfl dX5_study_18 ?_
      refine j_iload_n C 21 0 dX5_study_21 rfl rfl ?_
      refine j_iald C 22 15 0 (f := Z1 15) (wd_a15 ad ro c Z1 L) rfl (by omega) (by decide) dX5_study_22 ?_
      refine j_eqi hoi ?_
      refine j_iload_n C 23 2 dX5_study_23 rfl rfl ?_
      refine j_callV (mc := 0) (ms := 0) C 24 (c_X5_bind (jl κ) D ad ro c Z1 L u root hwf hr2 (g_ED_fr hfr (by decide) hE) huP) gX5_study_X5_bind rfl rfl rfl hd_X5_bind (by rw [hR]; exact ⟨Nat.le_of_ble_eq_true rfl, Nat.le_of_ble_eq_true rfl⟩) (ci := 5) rfl 2 (wd_o2 ad ro c Z1 L) rfl (Nat.le_of_ble_eq_true rfl) ⟨Nat.zero_le _, Nat.zero_le _⟩ dX5_study_24 (fun Z24 q24 => ?_)
      refine j_iinc C 27 0 (v := (nI (i + 1))) (lv' := [(2, .int (nI (i + 1))), (0, .ref (ad 2)), (1, .int (nI (root)))]) dX5_study_27 rfl (nI_add (i) 1) (by rw [hn]; decide) rfl ?_
      refine j_goto C 30 10 dX5_study_30 (by decide) ?_
      refine ih (i + 1) Z24 (by omega) (by omega) (g_fr_trans hfr (g_fr_sub q24.1 (by decide))) (g_EO_fr q24.1 (by decide) hO) (fun j hj hji h5 => ?_) _ rfl
      by_cases e : (g_P τ root)[j] = u
      · rw [e] at h5 ⊢; exact q24.2.2 h5
      · have q := hz j hj (by have : j ≠ i - (48 - (g_P τ root).length) := (fun q => e (by subst q; exact hu)); omega) h5
        rw [(q24.2.1 _ e).1, (q24.2.1 _ e).2]
        exact q
  refine j_aload_n C 0 0 dX5_study_0 rfl rfl ?_
  refine j_iload_n C 1 1 dX5_study_1 rfl rfl ?_
  refine j_callV (mc := 0) (ms := 0) C 2 (c_X5_lineUp (jl κ) D ad ro c Z L root hwf hr2 hE) gX5_study_X5_lineUp rfl rfl rfl hd_X5_lineUp (by rw [hR]; exact ⟨Nat.le_of_ble_eq_true rfl, Nat.le_of_ble_eq_true rfl⟩) (ci := 5) rfl 2 (wd_o2 ad ro c Z L) rfl (Nat.le_of_ble_eq_true rfl) ⟨Nat.zero_le _, Nat.zero_le _⟩ dX5_study_2 (fun Z2 q2 => ?_)
  refine j_aload_n C 5 0 dX5_study_5 rfl rfl ?_
  refine j_get C 6 (ci := 5) hL rfl 2 (wd_o2 ad ro c Z2 L) 8 (by decide) f34 rfl (v := .int (Z2 41 0)) rfl dX5_study_6 ?_
  refine j_eqi q2.1.1 ?_
  refine j_istore_n C 9 (lv' := [(2, .int (nI (48 - (g_P τ root).length))), (0, .ref (ad 2)), (1, .int (nI (root)))]) dX5_study_9 rfl (by rw [hn]; decide) rfl ?_
  exact loop (g_P τ root).length (48 - (g_P τ root).length) Z2 (by omega) (Nat.le_refl _) (g_fr_sub q2.2 (by decide)) q2.1 (fun j hj hji => by omega) _ rfl
