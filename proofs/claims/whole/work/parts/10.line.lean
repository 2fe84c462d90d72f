/-! contracts: Typing, loops -/
set_option maxHeartbeats 4000000 in
set_option maxRecDepth 100000 in
theorem c_X5_firstFault (ll : Launch) (D : va_G) (ad ro : Nat → Nat) (c : Nat → ClassId) (Z : ZT) (L : LT) {n : Nat} {τ : Tb} {root : Nat} (S : TS) (hwf : g_WF n τ) (hr2 : root < n) (hE : g_ED n τ Z) (hB : g_BD τ root Z) (hY : g_YD τ root S Z) (hO : g_EO τ root Z) : cI (S := Unit) ll yX5_firstFault vsX5_firstFault ({ frames := 2, cells := 0, slots := 0, locals := 43 } : Room) D (tysG c) [.ref (ad 2)] (wd ad ro c Z L) (fun _ => wd ad ro c Z L) (fun r _ => r = nI (g_ff τ root S (g_P τ root))) 0 0 := by
  refine cI_start (cc := cX5_firstFault) (maxL := 3) RX5 rfl (by decide +kernel) rfl (Nat.le_of_ble_eq_true rfl) ?_
  intro κ hlκ C hr _ E hR hn
  subst hlκ
  have hL : ∀ w ∈ u_ws RX5 TX5 9, w.before (ja κ) (js κ) = true := fun w h => C.t w (mX5_firstFault_wsX50 w h)
  have f34 : (Cond.fieldLink RX5 34 "GuardedGrammar$Typing" (TX5 8).2.1 (TX5 8).2.2.1).before (ja κ) (js κ) = true := C.t (.fieldLink RX5 34 "GuardedGrammar$Typing" "start" "I") (mX5_firstFault_o _ (by decide +kernel))
  have f9 : (Cond.fieldLink RX5 9 "GuardedGrammar$Typing" (TX5 1).2.1 (TX5 1).2.2.1).before (ja κ) (js κ) = true := C.t (.fieldLink RX5 9 "GuardedGrammar$Typing" "order" "[I") (mX5_firstFault_o _ (by decide +kernel))
  show J D κ 0 0 0 [(0, .ref (ad 2))] [] (wd ad ro c Z L)
  have h48n := hwf.1
  have hlen := g_P_len hwf hr2
  have loop : ∀ m i, m + i = 48 → 48 - (g_P τ root).length ≤ i → g_ff τ root S (g_P τ root) = g_ff τ root S ((g_P τ root).drop (i - (48 - (g_P τ root).length))) → J D κ 0 0 5 [(1, .int (nI i)), (0, .ref (ad 2))] [] (wd ad ro c Z L) := by
    intro m
    induction m with
    | zero =>
      intro i hm hi hff
      obtain rfl : i = 48 := by omega
      rw [List.drop_of_length_le (by omega)] at hff
      refine j_iload_n C 5 0 dX5_firstFault_5 rfl rfl ?_
      refine j_bipush C 6 (v := nI 48) dX5_firstFault_6 rfl ?_
      refine j_icmp_ge_n C 8 44 (by omega) (by omega) dX5_firstFault_8 (by decide) (fun _ => ?_) (fun h => absurd h (by omega))
      refine j_iconst C 44 (v := nI 0) dX5_firstFault_44 rfl ?_
      exact j_ireti C hr E (Nat.le_refl _) (Nat.le_refl _) rfl () (by rw [hff]; rfl) rfl dX5_firstFault_45
    | succ m ih =>
      intro i hm hi hff
      have hlt : i - (48 - (g_P τ root).length) < (g_P τ root).length := by omega
      rw [g_drop hlt] at hff
      generalize hu : (g_P τ root)[i - (48 - (g_P τ root).length)] = u at hff
      have huP : u ∈ g_P τ root := by rw [← hu]; exact List.getElem_mem hlt
      have hun := g_P_lt hwf hr2 huP
      have hoi : Z 15 i = nI u := by
        have q := hO.2 (i - (48 - (g_P τ root).length)) hlt
        rw [show 48 - (g_P τ root).length + (i - (48 - (g_P τ root).length)) = i by omega, hu] at q
        exact q
      have hfa := g_fa_le (τ := τ) (root := root) (S := S) u
      have hff2 : g_ff τ root S (u :: (g_P τ root).drop (i - (48 - (g_P τ root).length) + 1)) = if g_fa τ root S u = 0 then g_ff τ root S ((g_P τ root).drop (i - (48 - (g_P τ root).length) + 1)) else g_fa τ root S u + 8 * u := rfl
      rw [hff2] at hff
      refine j_iload_n C 5 0 dX5_firstFault_5 rfl rfl ?_
      refine j_bipush C 6 (v := nI 48) dX5_firstFault_6 rfl ?_
      refine j_icmp_ge_n C 8 44 (by omega) (by omega) dX5_firstFault_8 (by decide) (fun h => absurd h (by omega)) (fun _ => ?_)
      refine j_aload_n C 11 1 dX5_firstFault_11 rfl rfl ?_
      refine j_aload_n C 12 1 dX5_firstFault_12 rfl rfl ?_
      refine j_get C 13 (ci := 5) hL rfl 2 (wd_o2 ad ro c Z L) 1 (by decide) f9 rfl (v := .ref (ad 15)) rfl dX5_firstFault_13 ?_
      refine j_iload_n C 16 0 dX5_firstFault_16 rfl rfl ?_
      refine j_iald C 17 15 0 (f := Z 15) (wd_a15 ad ro c Z L) rfl (by omega) (by decide) dX5_firstFault_17 ?_
      refine j_eqi hoi ?_
      refine j_callI (mc := 0) (ms := 0) C 18 (c_X5_faultAt (jl κ) D ad ro c Z L S u hwf hr2 hE hB hY huP) gX5_firstFault_X5_faultAt rfl rfl rfl hd_X5_faultAt (by rw [hR]; exact ⟨Nat.le_of_ble_eq_true rfl, Nat.le_of_ble_eq_true rfl⟩) (ci := 5) rfl 2 (wd_o2 ad ro c Z L) rfl (Nat.le_of_ble_eq_true rfl) ⟨Nat.zero_le _, Nat.zero_le _⟩ dX5_firstFault_18 (fun r18 _ e18 => ?_)
      subst e18
      refine j_istore_n C 21 (lv' := [(2, .int (nI (g_fa τ root S u))), (1, .int (nI (i))), (0, .ref (ad 2))]) dX5_firstFault_21 rfl (by rw [hn]; decide) rfl ?_
      refine j_iload_n C 22 0 dX5_firstFault_22 rfl rfl ?_
      refine j_if_eq_n C 23 38 (by omega) dX5_firstFault_23 (by decide) (fun h23 => ?_) (fun h23 => ?_)
      · refine j_iinc C 38 1 (v := (nI (i + 1))) (lv' := [(1, .int (nI (i + 1))), (2, .int (nI (g_fa τ root S u))), (0, .ref (ad 2))]) dX5_firstFault_38 rfl (nI_add (i) 1) (by rw [hn]; decide) rfl ?_
        refine j_goto C 41 5 dX5_firstFault_41 (by decide) ?_
        refine j_lv [0, 2] rfl ?_
        exact ih (i + 1) (by omega) (by omega) (by rw [hff, if_pos h23, show i + 1 - (48 - (g_P τ root).length) = i - (48 - (g_P τ root).length) + 1 by omega])
      · refine j_iload_n C 26 0 dX5_firstFault_26 rfl rfl ?_
        refine j_bipush C 27 (v := nI 8) dX5_firstFault_27 rfl ?_
        refine j_aload_n C 29 2 dX5_firstFault_29 rfl rfl ?_
        refine j_get C 30 (ci := 5) hL rfl 2 (wd_o2 ad ro c Z L) 1 (by decide) f9 rfl (v := .ref (ad 15)) rfl dX5_firstFault_30 ?_
        refine j_iload_n C 33 1 dX5_firstFault_33 rfl rfl ?_
        refine j_iald C 34 15 0 (f := Z 15) (wd_a15 ad ro c Z L) rfl (by omega) (by decide) dX5_firstFault_34 ?_
        refine j_eqi hoi ?_
        refine j_imul_e C 35 dX5_firstFault_35 (pk_mul _ _) ?_
        refine j_iadd_e C 36 dX5_firstFault_36 (nI_add _ _) ?_
        exact j_ireti C hr E (Nat.le_refl _) (Nat.le_refl _) rfl () (by rw [hff, if_neg h23]) rfl dX5_firstFault_37
  refine j_aload_n C 0 0 dX5_firstFault_0 rfl rfl ?_
  refine j_get C 1 (ci := 5) hL rfl 2 (wd_o2 ad ro c Z L) 8 (by decide) f34 rfl (v := .int (Z 41 0)) rfl dX5_firstFault_1 ?_
  refine j_eqi hO.1 ?_
  refine j_istore_n C 4 (lv' := [(1, .int (nI (48 - (g_P τ root).length))), (0, .ref (ad 2))]) dX5_firstFault_4 rfl (by rw [hn]; decide) rfl ?_
  exact loop (g_P τ root).length (48 - (g_P τ root).length) (by omega) (Nat.le_refl _) (by rw [Nat.sub_self, List.drop_zero])
set_option maxHeartbeats 4000000 in
set_option maxRecDepth 100000 in
theorem c_X5_lineUp (ll : Launch) (D : va_G) (ad ro : Nat → Nat) (c : Nat → ClassId) (Z : ZT) (L : LT) {n : Nat} {τ : Tb} (root : Nat) (hwf : g_WF n τ) (hr2 : root < n) (hE : g_ED n τ Z) : cV (S := ZT) ll yX5_lineUp vsX5_lineUp ({ frames := 1, cells := 0, slots := 0, locals := 21 } : Room) D (tysG c) [.ref (ad 2), .int (nI (root))] (wd ad ro c Z L) (fun Z' => wd ad ro c Z' L) (fun Z' => g_EO τ root Z' ∧ g_fr [15, 16, 41] Z Z') 0 0 := by
  refine cV_start (cc := cX5_lineUp) (maxL := 4) RX5 rfl (by decide +kernel) rfl (Nat.le_of_ble_eq_true rfl) ?_
  intro κ hlκ C hr _ E hR hn
  subst hlκ
  have hL : ∀ w ∈ u_ws RX5 TX5 9, w.before (ja κ) (js κ) = true := fun w h => C.t w (mX5_lineUp_wsX50 w h)
  have f34 : (Cond.fieldLink RX5 34 "GuardedGrammar$Typing" (TX5 8).2.1 (TX5 8).2.2.1).before (ja κ) (js κ) = true := C.t (.fieldLink RX5 34 "GuardedGrammar$Typing" "start" "I") (mX5_lineUp_o _ (by decide +kernel))
  have f15 : (Cond.fieldLink RX5 15 "GuardedGrammar$Typing" (TX5 2).2.1 (TX5 2).2.2.1).before (ja κ) (js κ) = true := C.t (.fieldLink RX5 15 "GuardedGrammar$Typing" "waiting" "[I") (mX5_lineUp_o _ (by decide +kernel))
  have f9 : (Cond.fieldLink RX5 9 "GuardedGrammar$Typing" (TX5 1).2.1 (TX5 1).2.2.1).before (ja κ) (js κ) = true := C.t (.fieldLink RX5 9 "GuardedGrammar$Typing" "order" "[I") (mX5_lineUp_o _ (by decide +kernel))
  have f38 : (Cond.fieldLink RX5 38 "GuardedGrammar$Typing" (TX5 0).2.1 (TX5 0).2.2.1).before (ja κ) (js κ) = true := C.t (.fieldLink RX5 38 "GuardedGrammar$Typing" "terms" "LGuardedGrammar$Terms;") (mX5_lineUp_o _ (by decide +kernel))
  show J D κ 0 0 0 [(0, .ref (ad 2)), (1, .int (nI (root)))] [] (wd ad ro c Z L)
  have h48n := hwf.1
  have hlen := g_P_len hwf hr2
  have loop : ∀ m (β o : List Nat) (Z1 : ZT), (β.flatMap (g_P τ)).length ≤ m → (∀ u, u ∈ β → u < n) → g_P τ root = β.flatMap (g_P τ) ++ o → g_ar (Z1 16) 0 β → Z1 41 0 = nI (48 - o.length) → g_ar (Z1 15) (48 - o.length) o → g_fr [15, 16, 41] Z Z1 → ∀ lv, lv_pick lv [0, 1, 2] = [(2, .int (nI β.length)), (0, .ref (ad 2)), (1, .int (nI root))] → J D κ 0 0 15 lv [] (wd ad ro c Z1 L) := by
    intro m
    induction m with
    | zero =>
      intro β o Z1 hm hβ hP h16 h41 h15 hfr lv hlv
      have q := g_len_flat hwf hβ
      obtain rfl : β = [] := List.length_eq_zero_iff.mp (by omega)
      rw [List.flatMap_nil, List.nil_append] at hP
      subst hP
      refine j_lv [0, 1, 2] hlv ?_
      refine j_iload_n C 15 0 dX5_lineUp_15 rfl rfl ?_
      refine j_if_le_n C 16 117 (by decide) dX5_lineUp_16 (by decide) (fun _ => ?_) (fun h => absurd h (by decide))
      exact j_vreti C hr E (Nat.le_refl _) (Nat.le_refl _) Z1 ⟨⟨h41, h15⟩, hfr⟩ rfl dX5_lineUp_117
    | succ m ih =>
      intro β o Z1 hm hβ hP h16 h41 h15 hfr lv hlv
      refine j_lv [0, 1, 2] hlv ?_
      rcases List.eq_nil_or_concat β with rfl | ⟨β, t, rfl⟩
      · rw [List.flatMap_nil, List.nil_append] at hP
        subst hP
        refine j_iload_n C 15 0 dX5_lineUp_15 rfl rfl ?_
        refine j_if_le_n C 16 117 (by decide) dX5_lineUp_16 (by decide) (fun _ => ?_) (fun h => absurd h (by decide))
        exact j_vreti C hr E (Nat.le_refl _) (Nat.le_refl _) Z1 ⟨⟨h41, h15⟩, hfr⟩ rfl dX5_lineUp_117
      · rw [List.concat_eq_append] at hm hβ hP h16 ⊢
        have htn : t < n := hβ t (by simp)
        have hβ' : ∀ u, u ∈ β → u < n := fun u hu => hβ u (by simp [hu])
        have hPt := g_P_eq hwf htn
        have hpos := g_P_pos hwf htn
        have hq := g_len_flat hwf hβ'
        rw [List.flatMap_append, List.flatMap_cons, List.flatMap_nil, List.append_nil] at hP hm
        have hPl := congrArg List.length hP
        rw [List.length_append, List.length_append] at hPl
        rw [List.length_append] at hm
        obtain ⟨p16, pt⟩ := g_ar_pop h16
        have hk1 : (β ++ [t]).length = β.length + 1 := by simp
        rw [hk1]
        obtain ⟨s, hs⟩ : ∃ s, 48 - o.length = s + 1 := ⟨47 - o.length, by omega⟩
        rw [hs] at h41 h15
        have hkt := hE t htn
        have fl : ∀ k, k ∉ [15, 16, 41] → Z1 k = Z k := hfr
        have hlf : Z1 11 t = (if g_kd τ t = 3 ∨ g_kd τ t = 4 ∨ g_kd τ t = 6 then nI (g_lf τ t) else -1) := by rw [fl 11 (by decide)]; exact hkt.2.2.1
        have hrt : Z1 12 t = (if g_kd τ t = 3 ∨ g_kd τ t = 4 then nI (g_rt τ t) else -1) := by rw [fl 12 (by decide)]; exact hkt.2.2.2.1
        have hch := (hwf.2 t htn).2.2.2.1
        refine j_iload_n C 15 0 dX5_lineUp_15 rfl rfl ?_
        refine j_if_le_n C 16 117 (by omega) dX5_lineUp_16 (by decide) (fun h => absurd h (by omega)) (fun _ => ?_)
        refine j_aload_n C 19 1 dX5_lineUp_19 rfl rfl ?_
        refine j_get C 20 (ci := 5) hL rfl 2 (wd_o2 ad ro c Z1 L) 8 (by decide) f34 rfl (v := .int (Z1 41 0)) rfl dX5_lineUp_20 ?_
        refine j_eqi h41 ?_
        refine j_if_le_n C 23 117 (by omega) dX5_lineUp_23 (by decide) (fun h => absurd h (by omega)) (fun _ => ?_)
        refine j_iinc C 26 0 (v := nI β.length) (lv' := [(2, .int (nI (β.length))), (0, .ref (ad 2)), (1, .int (nI (root)))]) dX5_lineUp_26 rfl (pk_m1 _) (by rw [hn]; decide) rfl ?_
        refine j_aload_n C 29 1 dX5_lineUp_29 rfl rfl ?_
        refine j_get C 30 (ci := 5) hL rfl 2 (wd_o2 ad ro c Z1 L) 2 (by decide) f15 rfl (v := .ref (ad 16)) rfl dX5_lineUp_30 ?_
        refine j_iload_n C 33 0 dX5_lineUp_33 rfl rfl ?_
        refine j_iald C 34 16 0 (f := Z1 16) (wd_a16 ad ro c Z1 L) rfl (by omega) (by decide) dX5_lineUp_34 ?_
        refine j_eqi pt ?_
        refine j_istore_n C 35 (lv' := [(3, .int (nI (t))), (2, .int (nI (β.length))), (0, .ref (ad 2)), (1, .int (nI (root)))]) dX5_lineUp_35 rfl (by rw [hn]; decide) rfl ?_
        refine j_aload_n C 36 2 dX5_lineUp_36 rfl rfl ?_
        refine j_dup C 37 dX5_lineUp_37 rfl ?_
        refine j_get C 38 (ci := 5) hL rfl 2 (wd_o2 ad ro c Z1 L) 8 (by decide) f34 rfl (v := .int (Z1 41 0)) rfl dX5_lineUp_38 ?_
        refine j_eqi h41 ?_
        refine j_iconst C 41 (v := nI 1) dX5_lineUp_41 rfl ?_
        refine j_isub_e C 42 dX5_lineUp_42 (pk_sub (by omega)) ?_
        refine j_eqi (show nI (s + 1 - 1) = nI s by rw [Nat.add_sub_cancel]) ?_
        refine j_put C 43 (ci := 5) hL tyX5_ok nmX5 rfl 2 (wd_o2 ad ro c Z1 L) 8 (by decide) f34 rfl rfl (tyX5_ok 8 (by decide)) rfl rfl (Nat.le_of_ble_eq_true rfl) (wd_p41 ad ro c Z1 L (nI (s))) dX5_lineUp_43 ?_
        refine j_aload_n C 46 2 dX5_lineUp_46 rfl rfl ?_
        refine j_get C 47 (ci := 5) hL rfl 2 (wd_o2 ad ro c (upR Z1 41 (fun _ => nI (s))) L) 1 (by decide) f9 rfl (v := .ref (ad 15)) rfl dX5_lineUp_47 ?_
        refine j_aload_n C 50 2 dX5_lineUp_50 rfl rfl ?_
        refine j_get C 51 (ci := 5) hL rfl 2 (wd_o2 ad ro c (upR Z1 41 (fun _ => nI (s))) L) 8 (by decide) f34 rfl (v := .int (nI (s))) rfl dX5_lineUp_51 ?_
        refine j_iload_n C 54 0 dX5_lineUp_54 rfl rfl ?_
        refine j_iast C 55 15 0 (f := Z1 15) (wd_a15 ad ro c (upR Z1 41 (fun _ => nI (s))) L) rfl (by omega) (by decide) (wd_s15 ad ro c (upR Z1 41 (fun _ => nI (s))) L (upd (Z1 15) (s) (nI (t)))) dX5_lineUp_55 ?_
        have hk : (g_kd τ t = 3 ∨ g_kd τ t = 4) ∨ g_kd τ t = 6 ∨ (¬ (g_kd τ t = 3 ∨ g_kd τ t = 4) ∧ ¬ g_kd τ t = 6) := by omega
        rcases hk with hk | hk | hk
        · rw [if_pos (by omega)] at hlf
          rw [if_pos hk] at hrt
          rw [g_ch4 hk] at hch hPt
          have hl9 := hch (g_lf τ t) (by simp)
          have hr9 := hch (g_rt τ t) (by simp)
          rw [List.flatMap_cons, List.flatMap_cons, List.flatMap_nil, List.append_nil] at hPt
          have hPtl := congrArg List.length hPt
          have ht1 : ([t] : List Nat).length = 1 := rfl
          rw [List.length_append, List.length_append] at hPtl
          have p1 := g_P_pos hwf (show g_lf τ t < n by omega)
          have p2 := g_P_pos hwf (show g_rt τ t < n by omega)
          refine j_aload_n C 56 2 dX5_lineUp_56 rfl rfl ?_
          refine j_get C 57 (ci := 5) hL rfl 2 (wd_o2 ad ro c (upR (upR Z1 41 (fun _ => nI (s))) 15 (upd (Z1 15) (s) (nI (t)))) L) 0 (by decide) f38 rfl (v := .ref (ad 1)) rfl dX5_lineUp_57 ?_
          refine j_iload_n C 60 0 dX5_lineUp_60 rfl rfl ?_
          refine j_callI (mc := 0) (ms := 0) C 61 (c_X4_left (jl κ) D ad ro c (upR (upR Z1 41 (fun _ => nI (s))) 15 (upd (Z1 15) (s) (nI (t)))) L t (by omega)) gX5_lineUp_X4_left rfl rfl rfl hd_X4_left (by rw [hR]; exact ⟨Nat.le_of_ble_eq_true rfl, Nat.le_of_ble_eq_true rfl⟩) (ci := 4) rfl 1 (wd_o1 ad ro c (upR (upR Z1 41 (fun _ => nI (s))) 15 (upd (Z1 15) (s) (nI (t)))) L) rfl (Nat.le_of_ble_eq_true rfl) ⟨Nat.zero_le _, Nat.zero_le _⟩ dX5_lineUp_61 (fun r61 _ e61 => ?_)
          replace e61 : r61 = Z1 11 t := e61
          subst e61
          refine j_iconst C 64 (v := -1) dX5_lineUp_64 rfl ?_
          refine j_icmp_eq C 65 85 dX5_lineUp_65 (by decide) (fun h => absurd (h.symm.trans hlf).symm (e_nm1 (by omega))) (fun _ => ?_)
          refine j_aload_n C 68 2 dX5_lineUp_68 rfl rfl ?_
          refine j_get C 69 (ci := 5) hL rfl 2 (wd_o2 ad ro c (upR (upR Z1 41 (fun _ => nI (s))) 15 (upd (Z1 15) (s) (nI (t)))) L) 2 (by decide) f15 rfl (v := .ref (ad 16)) rfl dX5_lineUp_69 ?_
          refine j_iload_n C 72 1 dX5_lineUp_72 rfl rfl ?_
          refine j_aload_n C 73 2 dX5_lineUp_73 rfl rfl ?_
          refine j_get C 74 (ci := 5) hL rfl 2 (wd_o2 ad ro c (upR (upR Z1 41 (fun _ => nI (s))) 15 (upd (Z1 15) (s) (nI (t)))) L) 0 (by decide) f38 rfl (v := .ref (ad 1)) rfl dX5_lineUp_74 ?_
          refine j_iload_n C 77 0 dX5_lineUp_77 rfl rfl ?_
          refine j_callI (mc := 0) (ms := 0) C 78 (c_X4_left (jl κ) D ad ro c (upR (upR Z1 41 (fun _ => nI (s))) 15 (upd (Z1 15) (s) (nI (t)))) L t (by omega)) gX5_lineUp_X4_left rfl rfl rfl hd_X4_left (by rw [hR]; exact ⟨Nat.le_of_ble_eq_true rfl, Nat.le_of_ble_eq_true rfl⟩) (ci := 4) rfl 1 (wd_o1 ad ro c (upR (upR Z1 41 (fun _ => nI (s))) 15 (upd (Z1 15) (s) (nI (t)))) L) rfl (Nat.le_of_ble_eq_true rfl) ⟨Nat.zero_le _, Nat.zero_le _⟩ dX5_lineUp_78 (fun r78 _ e78 => ?_)
          replace e78 : r78 = Z1 11 t := e78
          subst e78
          refine j_eqi hlf ?_
          refine j_iast C 81 16 0 (f := Z1 16) (wd_a16 ad ro c (upR (upR Z1 41 (fun _ => nI (s))) 15 (upd (Z1 15) (s) (nI (t)))) L) rfl (by omega) (by decide) (wd_s16 ad ro c (upR (upR Z1 41 (fun _ => nI (s))) 15 (upd (Z1 15) (s) (nI (t)))) L (upd (Z1 16) (β.length) (nI (g_lf τ t)))) dX5_lineUp_81 ?_
          refine j_iinc C 82 1 (v := (nI (β.length + 1))) (lv' := [(2, .int (nI (β.length + 1))), (3, .int (nI (t))), (0, .ref (ad 2)), (1, .int (nI (root)))]) dX5_lineUp_82 rfl (nI_add (β.length) 1) (by rw [hn]; decide) rfl ?_
          refine j_aload_n C 85 2 dX5_lineUp_85 rfl rfl ?_
          refine j_get C 86 (ci := 5) hL rfl 2 (wd_o2 ad ro c (upR (upR (upR Z1 41 (fun _ => nI (s))) 15 (upd (Z1 15) (s) (nI (t)))) 16 (upd (Z1 16) (β.length) (nI (g_lf τ t)))) L) 0 (by decide) f38 rfl (v := .ref (ad 1)) rfl dX5_lineUp_86 ?_
          refine j_iload_n C 89 1 dX5_lineUp_89 rfl rfl ?_
          refine j_callI (mc := 0) (ms := 0) C 90 (c_X4_right (jl κ) D ad ro c (upR (upR (upR Z1 41 (fun _ => nI (s))) 15 (upd (Z1 15) (s) (nI (t)))) 16 (upd (Z1 16) (β.length) (nI (g_lf τ t)))) L t (by omega)) gX5_lineUp_X4_right rfl rfl rfl hd_X4_right (by rw [hR]; exact ⟨Nat.le_of_ble_eq_true rfl, Nat.le_of_ble_eq_true rfl⟩) (ci := 4) rfl 1 (wd_o1 ad ro c (upR (upR (upR Z1 41 (fun _ => nI (s))) 15 (upd (Z1 15) (s) (nI (t)))) 16 (upd (Z1 16) (β.length) (nI (g_lf τ t)))) L) rfl (Nat.le_of_ble_eq_true rfl) ⟨Nat.zero_le _, Nat.zero_le _⟩ dX5_lineUp_90 (fun r90 _ e90 => ?_)
          replace e90 : r90 = Z1 12 t := e90
          subst e90
          refine j_iconst C 93 (v := -1) dX5_lineUp_93 rfl ?_
          refine j_icmp_eq C 94 114 dX5_lineUp_94 (by decide) (fun h => absurd (h.symm.trans hrt).symm (e_nm1 (by omega))) (fun _ => ?_)
          refine j_aload_n C 97 2 dX5_lineUp_97 rfl rfl ?_
          refine j_get C 98 (ci := 5) hL rfl 2 (wd_o2 ad ro c (upR (upR (upR Z1 41 (fun _ => nI (s))) 15 (upd (Z1 15) (s) (nI (t)))) 16 (upd (Z1 16) (β.length) (nI (g_lf τ t)))) L) 2 (by decide) f15 rfl (v := .ref (ad 16)) rfl dX5_lineUp_98 ?_
          refine j_iload_n C 101 0 dX5_lineUp_101 rfl rfl ?_
          refine j_aload_n C 102 2 dX5_lineUp_102 rfl rfl ?_
          refine j_get C 103 (ci := 5) hL rfl 2 (wd_o2 ad ro c (upR (upR (upR Z1 41 (fun _ => nI (s))) 15 (upd (Z1 15) (s) (nI (t)))) 16 (upd (Z1 16) (β.length) (nI (g_lf τ t)))) L) 0 (by decide) f38 rfl (v := .ref (ad 1)) rfl dX5_lineUp_103 ?_
          refine j_iload_n C 106 1 dX5_lineUp_106 rfl rfl ?_
          refine j_callI (mc := 0) (ms := 0) C 107 (c_X4_right (jl κ) D ad ro c (upR (upR (upR Z1 41 (fun _ => nI (s))) 15 (upd (Z1 15) (s) (nI (t)))) 16 (upd (Z1 16) (β.length) (nI (g_lf τ t)))) L t (by omega)) gX5_lineUp_X4_right rfl rfl rfl hd_X4_right (by rw [hR]; exact ⟨Nat.le_of_ble_eq_true rfl, Nat.le_of_ble_eq_true rfl⟩) (ci := 4) rfl 1 (wd_o1 ad ro c (upR (upR (upR Z1 41 (fun _ => nI (s))) 15 (upd (Z1 15) (s) (nI (t)))) 16 (upd (Z1 16) (β.length) (nI (g_lf τ t)))) L) rfl (Nat.le_of_ble_eq_true rfl) ⟨Nat.zero_le _, Nat.zero_le _⟩ dX5_lineUp_107 (fun r107 _ e107 => ?_)
          replace e107 : r107 = Z1 12 t := e107
          subst e107
          refine j_eqi hrt ?_
          refine j_iast C 110 16 0 (f := upd (Z1 16) (β.length) (nI (g_lf τ t))) (wd_a16 ad ro c (upR (upR (upR Z1 41 (fun _ => nI (s))) 15 (upd (Z1 15) (s) (nI (t)))) 16 (upd (Z1 16) (β.length) (nI (g_lf τ t)))) L) rfl (by omega) (by decide) (wd_s16 ad ro c (upR (upR (upR Z1 41 (fun _ => nI (s))) 15 (upd (Z1 15) (s) (nI (t)))) 16 (upd (Z1 16) (β.length) (nI (g_lf τ t)))) L (upd (upd (Z1 16) (β.length) (nI (g_lf τ t))) (β.length + 1) (nI (g_rt τ t)))) dX5_lineUp_110 ?_
          refine j_iinc C 111 0 (v := (nI (β.length + 1 + 1))) (lv' := [(2, .int (nI (β.length + 1 + 1))), (3, .int (nI (t))), (0, .ref (ad 2)), (1, .int (nI (root)))]) dX5_lineUp_111 rfl (nI_add (β.length + 1) 1) (by rw [hn]; decide) rfl ?_
          refine j_goto C 114 15 dX5_lineUp_114 (by decide) ?_
          have ho1 : 48 - (t :: o).length = s := by rw [List.length_cons]; omega
          refine j_lv [0, 2, 3] rfl ?_
          exact ih (β ++ [g_lf τ t] ++ [g_rt τ t]) (t :: o) (upR (upR (upR (upR Z1 41 (fun _ => nI (s))) 15 (upd (Z1 15) (s) (nI (t)))) 16 (upd (Z1 16) (β.length) (nI (g_lf τ t)))) 16 (upd (upd (Z1 16) (β.length) (nI (g_lf τ t))) (β.length + 1) (nI (g_rt τ t)))) (by rw [List.flatMap_append, List.flatMap_append, List.flatMap_cons, List.flatMap_cons, List.flatMap_nil, List.append_nil, List.append_nil, List.length_append, List.length_append]; omega) (fun u hu => by simp at hu; rcases hu with hu | hu | hu; exact hβ' u hu; omega; omega) (by rw [List.flatMap_append, List.flatMap_append, List.flatMap_cons, List.flatMap_cons, List.flatMap_nil, List.append_nil, List.append_nil, hP, hPt]; simp) (g_ar_push (g_ar_push p16 rfl) (by simp)) (by rw [ho1]; rfl) (by rw [ho1]; exact g_ar_cons h15) (g_fr_up (g_fr_up (g_fr_up (g_fr_up hfr (by decide) _) (by decide) _) (by decide) _) (by decide) _) _ (by rw [show (β ++ [g_lf τ t] ++ [g_rt τ t]).length = β.length + 1 + 1 by simp]; rfl)
        · rw [if_pos (by omega)] at hlf
          rw [if_neg (by omega)] at hrt
          rw [g_ch6 hk] at hch hPt
          have hl9 := hch (g_lf τ t) (by simp)
          rw [List.flatMap_cons, List.flatMap_nil, List.append_nil] at hPt
          have hPtl := congrArg List.length hPt
          have ht1 : ([t] : List Nat).length = 1 := rfl
          rw [List.length_append] at hPtl
          have p1 := g_P_pos hwf (show g_lf τ t < n by omega)
          refine j_aload_n C 56 2 dX5_lineUp_56 rfl rfl ?_
          refine j_get C 57 (ci := 5) hL rfl 2 (wd_o2 ad ro c (upR (upR Z1 41 (fun _ => nI (s))) 15 (upd (Z1 15) (s) (nI (t)))) L) 0 (by decide) f38 rfl (v := .ref (ad 1)) rfl dX5_lineUp_57 ?_
          refine j_iload_n C 60 0 dX5_lineUp_60 rfl rfl ?_
          refine j_callI (mc := 0) (ms := 0) C 61 (c_X4_left (jl κ) D ad ro c (upR (upR Z1 41 (fun _ => nI (s))) 15 (upd (Z1 15) (s) (nI (t)))) L t (by omega)) gX5_lineUp_X4_left rfl rfl rfl hd_X4_left (by rw [hR]; exact ⟨Nat.le_of_ble_eq_true rfl, Nat.le_of_ble_eq_true rfl⟩) (ci := 4) rfl 1 (wd_o1 ad ro c (upR (upR Z1 41 (fun _ => nI (s))) 15 (upd (Z1 15) (s) (nI (t)))) L) rfl (Nat.le_of_ble_eq_true rfl) ⟨Nat.zero_le _, Nat.zero_le _⟩ dX5_lineUp_61 (fun r61 _ e61 => ?_)
          replace e61 : r61 = Z1 11 t := e61
          subst e61
          refine j_iconst C 64 (v := -1) dX5_lineUp_64 rfl ?_
          refine j_icmp_eq C 65 85 dX5_lineUp_65 (by decide) (fun h => absurd (h.symm.trans hlf).symm (e_nm1 (by omega))) (fun _ => ?_)
          refine j_aload_n C 68 2 dX5_lineUp_68 rfl rfl ?_
          refine j_get C 69 (ci := 5) hL rfl 2 (wd_o2 ad ro c (upR (upR Z1 41 (fun _ => nI (s))) 15 (upd (Z1 15) (s) (nI (t)))) L) 2 (by decide) f15 rfl (v := .ref (ad 16)) rfl dX5_lineUp_69 ?_
          refine j_iload_n C 72 1 dX5_lineUp_72 rfl rfl ?_
          refine j_aload_n C 73 2 dX5_lineUp_73 rfl rfl ?_
          refine j_get C 74 (ci := 5) hL rfl 2 (wd_o2 ad ro c (upR (upR Z1 41 (fun _ => nI (s))) 15 (upd (Z1 15) (s) (nI (t)))) L) 0 (by decide) f38 rfl (v := .ref (ad 1)) rfl dX5_lineUp_74 ?_
          refine j_iload_n C 77 0 dX5_lineUp_77 rfl rfl ?_
          refine j_callI (mc := 0) (ms := 0) C 78 (c_X4_left (jl κ) D ad ro c (upR (upR Z1 41 (fun _ => nI (s))) 15 (upd (Z1 15) (s) (nI (t)))) L t (by omega)) gX5_lineUp_X4_left rfl rfl rfl hd_X4_left (by rw [hR]; exact ⟨Nat.le_of_ble_eq_true rfl, Nat.le_of_ble_eq_true rfl⟩) (ci := 4) rfl 1 (wd_o1 ad ro c (upR (upR Z1 41 (fun _ => nI (s))) 15 (upd (Z1 15) (s) (nI (t)))) L) rfl (Nat.le_of_ble_eq_true rfl) ⟨Nat.zero_le _, Nat.zero_le _⟩ dX5_lineUp_78 (fun r78 _ e78 => ?_)
          replace e78 : r78 = Z1 11 t := e78
          subst e78
          refine j_eqi hlf ?_
          refine j_iast C 81 16 0 (f := Z1 16) (wd_a16 ad ro c (upR (upR Z1 41 (fun _ => nI (s))) 15 (upd (Z1 15) (s) (nI (t)))) L) rfl (by omega) (by decide) (wd_s16 ad ro c (upR (upR Z1 41 (fun _ => nI (s))) 15 (upd (Z1 15) (s) (nI (t)))) L (upd (Z1 16) (β.length) (nI (g_lf τ t)))) dX5_lineUp_81 ?_
          refine j_iinc C 82 1 (v := (nI (β.length + 1))) (lv' := [(2, .int (nI (β.length + 1))), (3, .int (nI (t))), (0, .ref (ad 2)), (1, .int (nI (root)))]) dX5_lineUp_82 rfl (nI_add (β.length) 1) (by rw [hn]; decide) rfl ?_
          refine j_aload_n C 85 2 dX5_lineUp_85 rfl rfl ?_
          refine j_get C 86 (ci := 5) hL rfl 2 (wd_o2 ad ro c (upR (upR (upR Z1 41 (fun _ => nI (s))) 15 (upd (Z1 15) (s) (nI (t)))) 16 (upd (Z1 16) (β.length) (nI (g_lf τ t)))) L) 0 (by decide) f38 rfl (v := .ref (ad 1)) rfl dX5_lineUp_86 ?_
          refine j_iload_n C 89 1 dX5_lineUp_89 rfl rfl ?_
          refine j_callI (mc := 0) (ms := 0) C 90 (c_X4_right (jl κ) D ad ro c (upR (upR (upR Z1 41 (fun _ => nI (s))) 15 (upd (Z1 15) (s) (nI (t)))) 16 (upd (Z1 16) (β.length) (nI (g_lf τ t)))) L t (by omega)) gX5_lineUp_X4_right rfl rfl rfl hd_X4_right (by rw [hR]; exact ⟨Nat.le_of_ble_eq_true rfl, Nat.le_of_ble_eq_true rfl⟩) (ci := 4) rfl 1 (wd_o1 ad ro c (upR (upR (upR Z1 41 (fun _ => nI (s))) 15 (upd (Z1 15) (s) (nI (t)))) 16 (upd (Z1 16) (β.length) (nI (g_lf τ t)))) L) rfl (Nat.le_of_ble_eq_true rfl) ⟨Nat.zero_le _, Nat.zero_le _⟩ dX5_lineUp_90 (fun r90 _ e90 => ?_)
          replace e90 : r90 = Z1 12 t := e90
          subst e90
          refine j_iconst C 93 (v := -1) dX5_lineUp_93 rfl ?_
          refine j_icmp_eq C 94 114 dX5_lineUp_94 (by decide) (fun _ => ?_) (fun h => absurd hrt h)
          refine j_goto C 114 15 dX5_lineUp_114 (by decide) ?_
          have ho1 : 48 - (t :: o).length = s := by rw [List.length_cons]; omega
          refine j_lv [0, 2, 3] rfl ?_
          exact ih (β ++ [g_lf τ t]) (t :: o) (upR (upR (upR Z1 41 (fun _ => nI (s))) 15 (upd (Z1 15) (s) (nI (t)))) 16 (upd (Z1 16) (β.length) (nI (g_lf τ t)))) (by rw [List.flatMap_append, List.flatMap_cons, List.flatMap_nil, List.append_nil, List.length_append]; omega) (fun u hu => by simp at hu; rcases hu with hu | hu; exact hβ' u hu; omega) (by rw [List.flatMap_append, List.flatMap_cons, List.flatMap_nil, List.append_nil, hP, hPt]; simp) (g_ar_push p16 rfl) (by rw [ho1]; rfl) (by rw [ho1]; exact g_ar_cons h15) (g_fr_up (g_fr_up (g_fr_up hfr (by decide) _) (by decide) _) (by decide) _) _ (by rw [show (β ++ [g_lf τ t]).length = β.length + 1 by simp]; rfl)
        · rw [if_neg (by omega)] at hlf
          rw [if_neg (by omega)] at hrt
          have hc0 : g_ch τ t = [] := by unfold g_ch; rw [if_neg (by omega), if_neg (by omega)]
          rw [hc0, List.flatMap_nil] at hPt
          have hPtl := congrArg List.length hPt
          have ht1 : ([t] : List Nat).length = 1 := rfl
          refine j_aload_n C 56 2 dX5_lineUp_56 rfl rfl ?_
          refine j_get C 57 (ci := 5) hL rfl 2 (wd_o2 ad ro c (upR (upR Z1 41 (fun _ => nI (s))) 15 (upd (Z1 15) (s) (nI (t)))) L) 0 (by decide) f38 rfl (v := .ref (ad 1)) rfl dX5_lineUp_57 ?_
          refine j_iload_n C 60 0 dX5_lineUp_60 rfl rfl ?_
          refine j_callI (mc := 0) (ms := 0) C 61 (c_X4_left (jl κ) D ad ro c (upR (upR Z1 41 (fun _ => nI (s))) 15 (upd (Z1 15) (s) (nI (t)))) L t (by omega)) gX5_lineUp_X4_left rfl rfl rfl hd_X4_left (by rw [hR]; exact ⟨Nat.le_of_ble_eq_true rfl, Nat.le_of_ble_eq_true rfl⟩) (ci := 4) rfl 1 (wd_o1 ad ro c (upR (upR Z1 41 (fun _ => nI (s))) 15 (upd (Z1 15) (s) (nI (t)))) L) rfl (Nat.le_of_ble_eq_true rfl) ⟨Nat.zero_le _, Nat.zero_le _⟩ dX5_lineUp_61 (fun r61 _ e61 => ?_)
          replace e61 : r61 = Z1 11 t := e61
          subst e61
          refine j_iconst C 64 (v := -1) dX5_lineUp_64 rfl ?_
          refine j_icmp_eq C 65 85 dX5_lineUp_65 (by decide) (fun _ => ?_) (fun h => absurd hlf h)
          refine j_aload_n C 85 2 dX5_lineUp_85 rfl rfl ?_
          refine j_get C 86 (ci := 5) hL rfl 2 (wd_o2 ad ro c (upR (upR Z1 41 (fun _ => nI (s))) 15 (upd (Z1 15) (s) (nI (t)))) L) 0 (by decide) f38 rfl (v := .ref (ad 1)) rfl dX5_lineUp_86 ?_
          refine j_iload_n C 89 0 dX5_lineUp_89 rfl rfl ?_
          refine j_callI (mc := 0) (ms := 0) C 90 (c_X4_right (jl κ) D ad ro c (upR (upR Z1 41 (fun _ => nI (s))) 15 (upd (Z1 15) (s) (nI (t)))) L t (by omega)) gX5_lineUp_X4_right rfl rfl rfl hd_X4_right (by rw [hR]; exact ⟨Nat.le_of_ble_eq_true rfl, Nat.le_of_ble_eq_true rfl⟩) (ci := 4) rfl 1 (wd_o1 ad ro c (upR (upR Z1 41 (fun _ => nI (s))) 15 (upd (Z1 15) (s) (nI (t)))) L) rfl (Nat.le_of_ble_eq_true rfl) ⟨Nat.zero_le _, Nat.zero_le _⟩ dX5_lineUp_90 (fun r90 _ e90 => ?_)
          replace e90 : r90 = Z1 12 t := e90
          subst e90
          refine j_iconst C 93 (v := -1) dX5_lineUp_93 rfl ?_
          refine j_icmp_eq C 94 114 dX5_lineUp_94 (by decide) (fun _ => ?_) (fun h => absurd hrt h)
          refine j_goto C 114 15 dX5_lineUp_114 (by decide) ?_
          have ho1 : 48 - (t :: o).length = s := by rw [List.length_cons]; omega
          refine j_lv [1, 2, 3] rfl ?_
          exact ih β (t :: o) (upR (upR Z1 41 (fun _ => nI (s))) 15 (upd (Z1 15) (s) (nI (t)))) (by omega) (hβ') (by rw [hP, hPt]; simp) p16 (by rw [ho1]; rfl) (by rw [ho1]; exact g_ar_cons h15) (g_fr_up (g_fr_up hfr (by decide) _) (by decide) _) _ (rfl)
  refine j_aload_n C 0 0 dX5_lineUp_0 rfl rfl ?_
  refine j_bipush C 1 (v := nI 48) dX5_lineUp_1 rfl ?_
  refine j_put C 3 (ci := 5) hL tyX5_ok nmX5 rfl 2 (wd_o2 ad ro c Z L) 8 (by decide) f34 rfl rfl (tyX5_ok 8 (by decide)) rfl rfl (Nat.le_of_ble_eq_true rfl) (wd_p41 ad ro c Z L (nI (48))) dX5_lineUp_3 ?_
  refine j_iconst C 6 (v := nI 1) dX5_lineUp_6 rfl ?_
  refine j_istore_n C 7 (lv' := [(2, .int (nI (1))), (0, .ref (ad 2)), (1, .int (nI (root)))]) dX5_lineUp_7 rfl (by rw [hn]; decide) rfl ?_
  refine j_aload_n C 8 1 dX5_lineUp_8 rfl rfl ?_
  refine j_get C 9 (ci := 5) hL rfl 2 (wd_o2 ad ro c (upR Z 41 (fun _ => nI (48))) L) 2 (by decide) f15 rfl (v := .ref (ad 16)) rfl dX5_lineUp_9 ?_
  refine j_iconst C 12 (v := nI 0) dX5_lineUp_12 rfl ?_
  refine j_iload_n C 13 2 dX5_lineUp_13 rfl rfl ?_
  refine j_iast C 14 16 0 (f := Z 16) (wd_a16 ad ro c (upR Z 41 (fun _ => nI (48))) L) rfl (by omega) (by decide) (wd_s16 ad ro c (upR Z 41 (fun _ => nI (48))) L (upd (Z 16) (0) (nI (root)))) dX5_lineUp_14 ?_
  refine j_lv [0, 1, 2] rfl ?_
  exact loop 48 [root] [] _ (by simpa using hlen) (fun u hu => by rw [List.mem_singleton.mp hu]; exact hr2) (by simp) (g_ar_push (l := []) g_ar_nil rfl) rfl g_ar_nil (g_fr_up (g_fr_up g_fr_rfl (by decide) _) (by decide) _) _ rfl
