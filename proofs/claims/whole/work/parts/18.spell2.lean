/-! contracts: Speller, on -/
set_option maxHeartbeats 4000000 in
set_option maxRecDepth 100000 in
theorem c_X1_below (ll : Launch) (D : va_G) (ad ro : Nat → Nat) (c : Nat → ClassId) (Z : ZT) (L : LT) {n : Nat} {τ : Tb} {root : Nat} (t x : Nat) (hwf : g_WF n τ) (hr2 : root < n) (hE : g_ED n τ Z) (hST : g_ST τ root Z) (hT : g_TY τ root (g_T τ root)) (ht : t ∈ g_P τ root) (hx : x < 8) (hk9 : g_kd τ t = 3 ∨ g_kd τ t = 4 ∨ g_kd τ t = 5 ∨ g_kd τ t = 6) : cI (S := Unit) ll yX1_below vsX1_below ({ frames := 2, cells := 0, slots := 0, locals := 45 } : Room) D (tysG c) [.ref (ad 8), .int (nI (t)), .int (nI (x))] (wd ad ro c Z L) (fun _ => wd ad ro c Z L) (fun r _ => r = nI (g_bl τ root (g_T τ root) x t)) 0 0 := by
  refine cI_start (cc := cX1_below) (maxL := 3) RX1 rfl (by decide +kernel) rfl (Nat.le_of_ble_eq_true rfl) ?_
  intro κ hlκ C hr _ E hR hn
  subst hlκ
  have hL : ∀ w ∈ u_ws RX1 TX1 9, w.before (ja κ) (js κ) = true := fun w h => C.t w (mX1_below_wsX10 w h)
  have f32 : (Cond.fieldLink RX1 32 "GuardedGrammar$Speller" (TX1 0).2.1 (TX1 0).2.2.1).before (ja κ) (js κ) = true := C.t (.fieldLink RX1 32 "GuardedGrammar$Speller" "terms" "LGuardedGrammar$Terms;") (mX1_below_o _ (by decide +kernel))
  have f36 : (Cond.fieldLink RX1 36 "GuardedGrammar$Speller" (TX1 1).2.1 (TX1 1).2.2.1).before (ja κ) (js κ) = true := C.t (.fieldLink RX1 36 "GuardedGrammar$Speller" "typing" "LGuardedGrammar$Typing;") (mX1_below_o _ (by decide +kernel))
  show J D κ 0 0 0 [(0, .ref (ad 8)), (1, .int (nI (t))), (2, .int (nI (x)))] [] (wd ad ro c Z L)
  have h48n := hwf.1
  have htn := g_P_lt hwf hr2 ht
  have hY := hST.2.2.2
  rcases hk9 with hk | hk | hk | hk
  · have hlP := g_lfP hwf hr2 ht (by omega)
    refine j_aload_n C 0 0 dX1_below_0 rfl rfl ?_
    refine j_get C 1 (ci := 1) hL rfl 8 (wd_o8 ad ro c Z L) 0 (by decide) f32 rfl (v := .ref (ad 1)) rfl dX1_below_1 ?_
    refine j_iload_n C 4 1 dX1_below_4 rfl rfl ?_
    refine j_callI (mc := 0) (ms := 0) C 5 (c_X4_kind (jl κ) D ad ro c Z L (t) (by omega)) gX1_below_X4_kind rfl rfl rfl hd_X4_kind (by rw [hR]; exact ⟨Nat.le_of_ble_eq_true rfl, Nat.le_of_ble_eq_true rfl⟩) (ci := 4) rfl 1 (wd_o1 ad ro c Z L) rfl (Nat.le_of_ble_eq_true rfl) ⟨Nat.zero_le _, Nat.zero_le _⟩ dX1_below_5 (fun r5 _ e5 => ?_)
    refine j_eqi (y := nI (g_kd τ (t))) (e5.trans (hE _ htn).1) ?_
    refine j_iconst C 8 (v := nI 5) dX1_below_8 rfl ?_
    refine j_icmp_ne_n C 9 21 (by omega) (by omega) dX1_below_9 (by decide) (fun _ => ?_) (fun h => absurd h (by omega))
    refine j_aload_n C 21 0 dX1_below_21 rfl rfl ?_
    refine j_get C 22 (ci := 1) hL rfl 8 (wd_o8 ad ro c Z L) 0 (by decide) f32 rfl (v := .ref (ad 1)) rfl dX1_below_22 ?_
    refine j_iload_n C 25 1 dX1_below_25 rfl rfl ?_
    refine j_callI (mc := 0) (ms := 0) C 26 (c_X4_kind (jl κ) D ad ro c Z L (t) (by omega)) gX1_below_X4_kind rfl rfl rfl hd_X4_kind (by rw [hR]; exact ⟨Nat.le_of_ble_eq_true rfl, Nat.le_of_ble_eq_true rfl⟩) (ci := 4) rfl 1 (wd_o1 ad ro c Z L) rfl (Nat.le_of_ble_eq_true rfl) ⟨Nat.zero_le _, Nat.zero_le _⟩ dX1_below_26 (fun r26 _ e26 => ?_)
    refine j_eqi (y := nI (g_kd τ (t))) (e26.trans (hE _ htn).1) ?_
    refine j_iconst C 29 (v := nI 4) dX1_below_29 rfl ?_
    refine j_icmp_ne_n C 30 57 (by omega) (by omega) dX1_below_30 (by decide) (fun _ => ?_) (fun h => absurd h (by omega))
    refine j_aload_n C 57 0 dX1_below_57 rfl rfl ?_
    refine j_get C 58 (ci := 1) hL rfl 8 (wd_o8 ad ro c Z L) 0 (by decide) f32 rfl (v := .ref (ad 1)) rfl dX1_below_58 ?_
    refine j_iload_n C 61 1 dX1_below_61 rfl rfl ?_
    refine j_callI (mc := 0) (ms := 0) C 62 (c_X4_left (jl κ) D ad ro c Z L (t) (by omega)) gX1_below_X4_left rfl rfl rfl hd_X4_left (by rw [hR]; exact ⟨Nat.le_of_ble_eq_true rfl, Nat.le_of_ble_eq_true rfl⟩) (ci := 4) rfl 1 (wd_o1 ad ro c Z L) rfl (Nat.le_of_ble_eq_true rfl) ⟨Nat.zero_le _, Nat.zero_le _⟩ dX1_below_62 (fun r62 _ e62 => ?_)
    refine j_eqi (y := nI (g_lf τ (t))) (e62.trans (g_E_lf hE htn (by omega))) ?_
    exact j_ireti C hr E (Nat.le_refl _) (Nat.le_refl _) rfl () (by unfold g_bl; rw [if_neg (by omega), if_neg (by omega)]) rfl dX1_below_65
  · have hlP := g_lfP hwf hr2 ht (by omega)
    have hrP := g_rtP hwf hr2 ht (by omega)
    refine j_aload_n C 0 0 dX1_below_0 rfl rfl ?_
    refine j_get C 1 (ci := 1) hL rfl 8 (wd_o8 ad ro c Z L) 0 (by decide) f32 rfl (v := .ref (ad 1)) rfl dX1_below_1 ?_
    refine j_iload_n C 4 1 dX1_below_4 rfl rfl ?_
    refine j_callI (mc := 0) (ms := 0) C 5 (c_X4_kind (jl κ) D ad ro c Z L (t) (by omega)) gX1_below_X4_kind rfl rfl rfl hd_X4_kind (by rw [hR]; exact ⟨Nat.le_of_ble_eq_true rfl, Nat.le_of_ble_eq_true rfl⟩) (ci := 4) rfl 1 (wd_o1 ad ro c Z L) rfl (Nat.le_of_ble_eq_true rfl) ⟨Nat.zero_le _, Nat.zero_le _⟩ dX1_below_5 (fun r5 _ e5 => ?_)
    refine j_eqi (y := nI (g_kd τ (t))) (e5.trans (hE _ htn).1) ?_
    refine j_iconst C 8 (v := nI 5) dX1_below_8 rfl ?_
    refine j_icmp_ne_n C 9 21 (by omega) (by omega) dX1_below_9 (by decide) (fun _ => ?_) (fun h => absurd h (by omega))
    refine j_aload_n C 21 0 dX1_below_21 rfl rfl ?_
    refine j_get C 22 (ci := 1) hL rfl 8 (wd_o8 ad ro c Z L) 0 (by decide) f32 rfl (v := .ref (ad 1)) rfl dX1_below_22 ?_
    refine j_iload_n C 25 1 dX1_below_25 rfl rfl ?_
    refine j_callI (mc := 0) (ms := 0) C 26 (c_X4_kind (jl κ) D ad ro c Z L (t) (by omega)) gX1_below_X4_kind rfl rfl rfl hd_X4_kind (by rw [hR]; exact ⟨Nat.le_of_ble_eq_true rfl, Nat.le_of_ble_eq_true rfl⟩) (ci := 4) rfl 1 (wd_o1 ad ro c Z L) rfl (Nat.le_of_ble_eq_true rfl) ⟨Nat.zero_le _, Nat.zero_le _⟩ dX1_below_26 (fun r26 _ e26 => ?_)
    refine j_eqi (y := nI (g_kd τ (t))) (e26.trans (hE _ htn).1) ?_
    refine j_iconst C 29 (v := nI 4) dX1_below_29 rfl ?_
    refine j_icmp_ne_n C 30 57 (by omega) (by omega) dX1_below_30 (by decide) (fun h => absurd h (by omega)) (fun _ => ?_)
    refine j_aload_n C 33 0 dX1_below_33 rfl rfl ?_
    refine j_get C 34 (ci := 1) hL rfl 8 (wd_o8 ad ro c Z L) 1 (by decide) f36 rfl (v := .ref (ad 2)) rfl dX1_below_34 ?_
    refine j_iload_n C 37 1 dX1_below_37 rfl rfl ?_
    refine j_iconst C 38 (v := nI 1) dX1_below_38 rfl ?_
    refine j_iload_n C 39 2 dX1_below_39 rfl rfl ?_
    refine j_ishl C 40 dX1_below_40 ?_
    refine j_eqi (e_shl _ hx) ?_
    refine j_callI (mc := 0) (ms := 0) C 41 (c_X5_side (jl κ) D ad ro c Z L t (2 ^ x) (g_lf τ t) (g_rt τ t) (g_nu (g_T τ root) (g_lf τ t)) (g_nu (g_T τ root) (g_rt τ t)) (g_fi (g_T τ root) (g_lf τ t)) (g_fi (g_T τ root) (g_rt τ t)) (by omega) (g_E_lf hE htn (by omega)) (g_E_rt hE htn (by omega)) (by omega) (by omega) (hY _ hlP.1).1 (hY _ hrP.1).1 (hY _ hlP.1).2.1 (hY _ hrP.1).2.1 (hY _ hlP.1).2.2.2.1 (hY _ hrP.1).2.2.2.1) gX1_below_X5_side rfl rfl rfl hd_X5_side (by rw [hR]; exact ⟨Nat.le_of_ble_eq_true rfl, Nat.le_of_ble_eq_true rfl⟩) (ci := 5) rfl 2 (wd_o2 ad ro c Z L) rfl (Nat.le_of_ble_eq_true rfl) ⟨Nat.zero_le _, Nat.zero_le _⟩ dX1_below_41 (fun r41 _ e41 => ?_)
    refine j_eqi (e41.trans (g_side (x := x) (hY _ hlP.1).2.2.2.1 (hY _ hrP.1).2.2.2.1 (by rw [if_pos hx]))) ?_
    rcases g_cho3 τ (g_T τ root) x t with hc | hc | hc
    · refine j_eqi (y := nI 0) (by rw [hc]; rfl) ?_
      refine j_iconst C 44 (v := nI 1) dX1_below_44 rfl ?_
      refine j_icmp_ne C 45 57 dX1_below_45 (by decide) (fun _ => ?_) (fun h => absurd h (by decide))
      refine j_aload_n C 57 0 dX1_below_57 rfl rfl ?_
      refine j_get C 58 (ci := 1) hL rfl 8 (wd_o8 ad ro c Z L) 0 (by decide) f32 rfl (v := .ref (ad 1)) rfl dX1_below_58 ?_
      refine j_iload_n C 61 1 dX1_below_61 rfl rfl ?_
      refine j_callI (mc := 0) (ms := 0) C 62 (c_X4_left (jl κ) D ad ro c Z L (t) (by omega)) gX1_below_X4_left rfl rfl rfl hd_X4_left (by rw [hR]; exact ⟨Nat.le_of_ble_eq_true rfl, Nat.le_of_ble_eq_true rfl⟩) (ci := 4) rfl 1 (wd_o1 ad ro c Z L) rfl (Nat.le_of_ble_eq_true rfl) ⟨Nat.zero_le _, Nat.zero_le _⟩ dX1_below_62 (fun r62 _ e62 => ?_)
      refine j_eqi (y := nI (g_lf τ (t))) (e62.trans (g_E_lf hE htn (by omega))) ?_
      exact j_ireti C hr E (Nat.le_refl _) (Nat.le_refl _) rfl () (by unfold g_bl; rw [if_neg (by omega), if_neg (by omega)]) rfl dX1_below_65
    · refine j_eqi (y := nI 1) (by rw [hc]; rfl) ?_
      refine j_iconst C 44 (v := nI 1) dX1_below_44 rfl ?_
      refine j_icmp_ne C 45 57 dX1_below_45 (by decide) (fun h => absurd rfl h) (fun _ => ?_)
      refine j_aload_n C 48 0 dX1_below_48 rfl rfl ?_
      refine j_get C 49 (ci := 1) hL rfl 8 (wd_o8 ad ro c Z L) 0 (by decide) f32 rfl (v := .ref (ad 1)) rfl dX1_below_49 ?_
      refine j_iload_n C 52 1 dX1_below_52 rfl rfl ?_
      refine j_callI (mc := 0) (ms := 0) C 53 (c_X4_right (jl κ) D ad ro c Z L (t) (by omega)) gX1_below_X4_right rfl rfl rfl hd_X4_right (by rw [hR]; exact ⟨Nat.le_of_ble_eq_true rfl, Nat.le_of_ble_eq_true rfl⟩) (ci := 4) rfl 1 (wd_o1 ad ro c Z L) rfl (Nat.le_of_ble_eq_true rfl) ⟨Nat.zero_le _, Nat.zero_le _⟩ dX1_below_53 (fun r53 _ e53 => ?_)
      refine j_eqi (y := nI (g_rt τ (t))) (e53.trans (g_E_rt hE htn (by omega))) ?_
      exact j_ireti C hr E (Nat.le_refl _) (Nat.le_refl _) rfl () (by unfold g_bl; rw [if_neg (by omega), if_pos ⟨hk, hc⟩]) rfl dX1_below_56
    · refine j_eqi (y := -1) (by rw [hc]; rfl) ?_
      refine j_iconst C 44 (v := nI 1) dX1_below_44 rfl ?_
      refine j_icmp_ne C 45 57 dX1_below_45 (by decide) (fun _ => ?_) (fun h => absurd h (by decide))
      refine j_aload_n C 57 0 dX1_below_57 rfl rfl ?_
      refine j_get C 58 (ci := 1) hL rfl 8 (wd_o8 ad ro c Z L) 0 (by decide) f32 rfl (v := .ref (ad 1)) rfl dX1_below_58 ?_
      refine j_iload_n C 61 1 dX1_below_61 rfl rfl ?_
      refine j_callI (mc := 0) (ms := 0) C 62 (c_X4_left (jl κ) D ad ro c Z L (t) (by omega)) gX1_below_X4_left rfl rfl rfl hd_X4_left (by rw [hR]; exact ⟨Nat.le_of_ble_eq_true rfl, Nat.le_of_ble_eq_true rfl⟩) (ci := 4) rfl 1 (wd_o1 ad ro c Z L) rfl (Nat.le_of_ble_eq_true rfl) ⟨Nat.zero_le _, Nat.zero_le _⟩ dX1_below_62 (fun r62 _ e62 => ?_)
      refine j_eqi (y := nI (g_lf τ (t))) (e62.trans (g_E_lf hE htn (by omega))) ?_
      exact j_ireti C hr E (Nat.le_refl _) (Nat.le_refl _) rfl () (by unfold g_bl; rw [if_neg (by omega), if_neg (by omega)]) rfl dX1_below_65
  · obtain ⟨k5, hb5, -⟩ := (hT.2.2 t ht).1 hk
    refine j_aload_n C 0 0 dX1_below_0 rfl rfl ?_
    refine j_get C 1 (ci := 1) hL rfl 8 (wd_o8 ad ro c Z L) 0 (by decide) f32 rfl (v := .ref (ad 1)) rfl dX1_below_1 ?_
    refine j_iload_n C 4 1 dX1_below_4 rfl rfl ?_
    refine j_callI (mc := 0) (ms := 0) C 5 (c_X4_kind (jl κ) D ad ro c Z L (t) (by omega)) gX1_below_X4_kind rfl rfl rfl hd_X4_kind (by rw [hR]; exact ⟨Nat.le_of_ble_eq_true rfl, Nat.le_of_ble_eq_true rfl⟩) (ci := 4) rfl 1 (wd_o1 ad ro c Z L) rfl (Nat.le_of_ble_eq_true rfl) ⟨Nat.zero_le _, Nat.zero_le _⟩ dX1_below_5 (fun r5 _ e5 => ?_)
    refine j_eqi (y := nI (g_kd τ (t))) (e5.trans (hE _ htn).1) ?_
    refine j_iconst C 8 (v := nI 5) dX1_below_8 rfl ?_
    refine j_icmp_ne_n C 9 21 (by omega) (by omega) dX1_below_9 (by decide) (fun h => absurd h (by omega)) (fun _ => ?_)
    refine j_aload_n C 12 0 dX1_below_12 rfl rfl ?_
    refine j_get C 13 (ci := 1) hL rfl 8 (wd_o8 ad ro c Z L) 1 (by decide) f36 rfl (v := .ref (ad 2)) rfl dX1_below_13 ?_
    refine j_iload_n C 16 1 dX1_below_16 rfl rfl ?_
    refine j_callI (mc := 0) (ms := 0) C 17 (c_X5_binder (jl κ) D ad ro c Z L (t) (by omega)) gX1_below_X5_binder rfl rfl rfl hd_X5_binder (by rw [hR]; exact ⟨Nat.le_of_ble_eq_true rfl, Nat.le_of_ble_eq_true rfl⟩) (ci := 5) rfl 2 (wd_o2 ad ro c Z L) rfl (Nat.le_of_ble_eq_true rfl) ⟨Nat.zero_le _, Nat.zero_le _⟩ dX1_below_17 (fun r17 _ e17 => ?_)
    refine j_eqi (y := nI (k5)) (e17.trans ((hST.2.1 t ht hk).1 k5 hb5).1) ?_
    exact j_ireti C hr E (Nat.le_refl _) (Nat.le_refl _) rfl () (by unfold g_bl; rw [if_pos hk, hb5]; rfl) rfl dX1_below_20
  · have hlP := g_lfP hwf hr2 ht (by omega)
    refine j_aload_n C 0 0 dX1_below_0 rfl rfl ?_
    refine j_get C 1 (ci := 1) hL rfl 8 (wd_o8 ad ro c Z L) 0 (by decide) f32 rfl (v := .ref (ad 1)) rfl dX1_below_1 ?_
    refine j_iload_n C 4 1 dX1_below_4 rfl rfl ?_
    refine j_callI (mc := 0) (ms := 0) C 5 (c_X4_kind (jl κ) D ad ro c Z L (t) (by omega)) gX1_below_X4_kind rfl rfl rfl hd_X4_kind (by rw [hR]; exact ⟨Nat.le_of_ble_eq_true rfl, Nat.le_of_ble_eq_true rfl⟩) (ci := 4) rfl 1 (wd_o1 ad ro c Z L) rfl (Nat.le_of_ble_eq_true rfl) ⟨Nat.zero_le _, Nat.zero_le _⟩ dX1_below_5 (fun r5 _ e5 => ?_)
    refine j_eqi (y := nI (g_kd τ (t))) (e5.trans (hE _ htn).1) ?_
    refine j_iconst C 8 (v := nI 5) dX1_below_8 rfl ?_
    refine j_icmp_ne_n C 9 21 (by omega) (by omega) dX1_below_9 (by decide) (fun _ => ?_) (fun h => absurd h (by omega))
    refine j_aload_n C 21 0 dX1_below_21 rfl rfl ?_
    refine j_get C 22 (ci := 1) hL rfl 8 (wd_o8 ad ro c Z L) 0 (by decide) f32 rfl (v := .ref (ad 1)) rfl dX1_below_22 ?_
    refine j_iload_n C 25 1 dX1_below_25 rfl rfl ?_
    refine j_callI (mc := 0) (ms := 0) C 26 (c_X4_kind (jl κ) D ad ro c Z L (t) (by omega)) gX1_below_X4_kind rfl rfl rfl hd_X4_kind (by rw [hR]; exact ⟨Nat.le_of_ble_eq_true rfl, Nat.le_of_ble_eq_true rfl⟩) (ci := 4) rfl 1 (wd_o1 ad ro c Z L) rfl (Nat.le_of_ble_eq_true rfl) ⟨Nat.zero_le _, Nat.zero_le _⟩ dX1_below_26 (fun r26 _ e26 => ?_)
    refine j_eqi (y := nI (g_kd τ (t))) (e26.trans (hE _ htn).1) ?_
    refine j_iconst C 29 (v := nI 4) dX1_below_29 rfl ?_
    refine j_icmp_ne_n C 30 57 (by omega) (by omega) dX1_below_30 (by decide) (fun _ => ?_) (fun h => absurd h (by omega))
    refine j_aload_n C 57 0 dX1_below_57 rfl rfl ?_
    refine j_get C 58 (ci := 1) hL rfl 8 (wd_o8 ad ro c Z L) 0 (by decide) f32 rfl (v := .ref (ad 1)) rfl dX1_below_58 ?_
    refine j_iload_n C 61 1 dX1_below_61 rfl rfl ?_
    refine j_callI (mc := 0) (ms := 0) C 62 (c_X4_left (jl κ) D ad ro c Z L (t) (by omega)) gX1_below_X4_left rfl rfl rfl hd_X4_left (by rw [hR]; exact ⟨Nat.le_of_ble_eq_true rfl, Nat.le_of_ble_eq_true rfl⟩) (ci := 4) rfl 1 (wd_o1 ad ro c Z L) rfl (Nat.le_of_ble_eq_true rfl) ⟨Nat.zero_le _, Nat.zero_le _⟩ dX1_below_62 (fun r62 _ e62 => ?_)
    refine j_eqi (y := nI (g_lf τ (t))) (e62.trans (g_E_lf hE htn (by omega))) ?_
    exact j_ireti C hr E (Nat.le_refl _) (Nat.le_refl _) rfl () (by unfold g_bl; rw [if_neg (by omega), if_neg (by omega)]) rfl dX1_below_65
set_option maxHeartbeats 4000000 in
set_option maxRecDepth 100000 in
theorem c_X1_goDown (ll : Launch) (D : va_G) (ad ro : Nat → Nat) (c : Nat → ClassId) (Z : ZT) (L : LT) {n : Nat} {τ : Tb} {root : Nat} (t x : Nat) (hwf : g_WF n τ) (hr2 : root < n) (hE : g_ED n τ Z) (hST : g_ST τ root Z) (hT : g_TY τ root (g_T τ root)) (ht : t ∈ g_P τ root) (hx : x < 8) (hf : (g_fi (g_T τ root) t).testBit x = true) : cV (S := ZT) ll yX1_goDown vsX1_goDown ({ frames := 3, cells := 0, slots := 0, locals := 67 } : Room) D (tysG c) [.ref (ad 8), .int (nI (t)), .int (nI (x))] (wd ad ro c Z L) (fun Z' => wd ad ro c Z' L) (fun Z' => g_ar (Z' 25) 0 (g_pth τ root (g_T τ root) x (g_rk τ root t + 1) t) ∧ Z' 49 0 = nI (g_pth τ root (g_T τ root) x (g_rk τ root t + 1) t).length ∧ (g_pth τ root (g_T τ root) x (g_rk τ root t + 1) t).length ≤ 23 ∧ (∀ u, u ∈ (g_pth τ root (g_T τ root) x (g_rk τ root t + 1) t) → u ∈ g_P τ root) ∧ g_fr [25, 49] Z Z') 0 0 := by
  refine cV_start (cc := cX1_goDown) (maxL := 5) RX1 rfl (by decide +kernel) rfl (Nat.le_of_ble_eq_true rfl) ?_
  intro κ hlκ C hr _ E hR hn
  subst hlκ
  have hL : ∀ w ∈ u_ws RX1 TX1 9, w.before (ja κ) (js κ) = true := fun w h => C.t w (mX1_goDown_wsX10 w h)
  have f26 : (Cond.fieldLink RX1 26 "GuardedGrammar$Speller" (TX1 7).2.1 (TX1 7).2.2.1).before (ja κ) (js κ) = true := C.t (.fieldLink RX1 26 "GuardedGrammar$Speller" "freshSize" "I") (mX1_goDown_o _ (by decide +kernel))
  have f32 : (Cond.fieldLink RX1 32 "GuardedGrammar$Speller" (TX1 0).2.1 (TX1 0).2.2.1).before (ja κ) (js κ) = true := C.t (.fieldLink RX1 32 "GuardedGrammar$Speller" "terms" "LGuardedGrammar$Terms;") (mX1_goDown_o _ (by decide +kernel))
  have f23 : (Cond.fieldLink RX1 23 "GuardedGrammar$Speller" (TX1 6).2.1 (TX1 6).2.2.1).before (ja κ) (js κ) = true := C.t (.fieldLink RX1 23 "GuardedGrammar$Speller" "fresh" "[I") (mX1_goDown_o _ (by decide +kernel))
  show J D κ 0 0 0 [(0, .ref (ad 8)), (1, .int (nI (t))), (2, .int (nI (x)))] [] (wd ad ro c Z L)
  have h48n := hwf.1
  have loop : ∀ r u i (V φ0 : List Nat) (Z1 : ZT), g_rk τ root u ≤ r → u ∈ g_P τ root → (g_fi (g_T τ root) u).testBit x = true → V.Nodup → (∀ v, v ∈ V → v ∈ g_P τ root ∧ g_rk τ root u < g_rk τ root v) → i = V.length → φ0.length = g_ls (g_pr τ) V → (∀ v, v ∈ φ0 → v ∈ g_P τ root) → φ0 ++ g_pth τ root (g_T τ root) x (r + 1) u = (g_pth τ root (g_T τ root) x (g_rk τ root t + 1) t) → g_ar (Z1 25) 0 φ0 → Z1 49 0 = nI φ0.length → g_fr [25, 49] Z Z1 → ∀ lv, lv_pick lv [0, 1, 2, 3, 4] = [(4, .int (nI i)), (3, .int (nI u)), (0, .ref (ad 8)), (1, .int (nI t)), (2, .int (nI x))] → J D κ 0 0 10 lv [] (wd ad ro c Z1 L) := by
    intro r
    induction r using Nat.strongRecOn with
    | ind r ih =>
      intro u i V φ0 Z1 hrk huP hfu hVn hVP hi hφl hφP hpth h25 h49 hfr lv hlv
      have hun := g_P_lt hwf hr2 huP
      have huV : u ∉ V := fun z => by have := (hVP u z).2; omega
      have hVu : (u :: V).Nodup := List.nodup_cons.mpr ⟨huV, hVn⟩
      have hVl := g_V_len hwf hr2 hVu (fun v hv => by
        rcases List.mem_cons.mp hv with rfl | hv
        · exact huP
        · exact (hVP v hv).1)
      have hVl1 : (u :: V).length = V.length + 1 := rfl
      have hpr1 : g_ls (g_pr τ) (u :: V) = g_pr τ u + g_ls (g_pr τ) V := rfl
      have hE1 : g_ED n τ Z1 := g_ED_fr hfr (by decide) hE
      have hST1 : g_ST τ root Z1 := g_ST_fr hfr (by decide) hST
      refine j_lv [0, 1, 2, 3, 4] hlv ?_
      by_cases hk : g_kd τ u = 2
      · rw [g_pth_2 hk, List.append_nil] at hpth
        refine j_iload C 10 0 dX1_goDown_10 rfl ?_
        refine j_bipush C 12 (v := nI 48) dX1_goDown_12 rfl ?_
        refine j_icmp_ge_n C 14 90 (by omega) (by omega) dX1_goDown_14 (by decide) (fun h => absurd h (by omega)) (fun _ => ?_)
        refine j_aload_n C 17 2 dX1_goDown_17 rfl rfl ?_
        refine j_get C 18 (ci := 1) hL rfl 8 (wd_o8 ad ro c Z1 L) 0 (by decide) f32 rfl (v := .ref (ad 1)) rfl dX1_goDown_18 ?_
        refine j_iload_n C 21 1 dX1_goDown_21 rfl rfl ?_
        refine j_callI (mc := 0) (ms := 0) C 22 (c_X4_kind (jl κ) D ad ro c Z1 L (u) (by omega)) gX1_goDown_X4_kind rfl rfl rfl hd_X4_kind (by rw [hR]; exact ⟨Nat.le_of_ble_eq_true rfl, Nat.le_of_ble_eq_true rfl⟩) (ci := 4) rfl 1 (wd_o1 ad ro c Z1 L) rfl (Nat.le_of_ble_eq_true rfl) ⟨Nat.zero_le _, Nat.zero_le _⟩ dX1_goDown_22 (fun r22 _ e22 => ?_)
        refine j_eqi (y := nI (g_kd τ (u))) (e22.trans (hE1 _ hun).1) ?_
        refine j_iconst C 25 (v := nI 2) dX1_goDown_25 rfl ?_
        refine j_icmp_eq_n C 26 90 (by omega) (by omega) dX1_goDown_26 (by decide) (fun _ => ?_) (fun h => absurd h (by omega))
        exact j_vreti C hr E (Nat.le_refl _) (Nat.le_refl _) Z1 (by rw [← hpth]; exact ⟨h25, h49, by omega, hφP, hfr⟩) rfl dX1_goDown_90
      have hb := g_bl_spec hwf hr2 hT huP hfu hk
      obtain ⟨r, rfl⟩ : ∃ j, r = j + 1 := ⟨r - 1, by omega⟩
      rw [hb.2.2.2.2 (r + 1)] at hpth
      have hV2 : ∀ v, v ∈ u :: V → v ∈ g_P τ root ∧ g_rk τ root (g_bl τ root (g_T τ root) x u) < g_rk τ root v := fun v hv => by
        rcases List.mem_cons.mp hv with rfl | hv
        · exact ⟨huP, hb.2.1⟩
        · exact ⟨(hVP v hv).1, by have := (hVP v hv).2; omega⟩
      by_cases hk3 : g_kd τ u = 3
      · rw [if_pos hk3] at hpth
        have hp1 : g_pr τ u = 1 := by unfold g_pr; rw [if_pos hk3]
        have hrP := g_rtP hwf hr2 huP (Or.inl hk3)
        refine j_iload C 10 0 dX1_goDown_10 rfl ?_
        refine j_bipush C 12 (v := nI 48) dX1_goDown_12 rfl ?_
        refine j_icmp_ge_n C 14 90 (by omega) (by omega) dX1_goDown_14 (by decide) (fun h => absurd h (by omega)) (fun _ => ?_)
        refine j_aload_n C 17 2 dX1_goDown_17 rfl rfl ?_
        refine j_get C 18 (ci := 1) hL rfl 8 (wd_o8 ad ro c Z1 L) 0 (by decide) f32 rfl (v := .ref (ad 1)) rfl dX1_goDown_18 ?_
        refine j_iload_n C 21 1 dX1_goDown_21 rfl rfl ?_
        refine j_callI (mc := 0) (ms := 0) C 22 (c_X4_kind (jl κ) D ad ro c Z1 L (u) (by omega)) gX1_goDown_X4_kind rfl rfl rfl hd_X4_kind (by rw [hR]; exact ⟨Nat.le_of_ble_eq_true rfl, Nat.le_of_ble_eq_true rfl⟩) (ci := 4) rfl 1 (wd_o1 ad ro c Z1 L) rfl (Nat.le_of_ble_eq_true rfl) ⟨Nat.zero_le _, Nat.zero_le _⟩ dX1_goDown_22 (fun r22 _ e22 => ?_)
        refine j_eqi (y := nI (g_kd τ (u))) (e22.trans (hE1 _ hun).1) ?_
        refine j_iconst C 25 (v := nI 2) dX1_goDown_25 rfl ?_
        refine j_icmp_eq_n C 26 90 (by omega) (by omega) dX1_goDown_26 (by decide) (fun h => absurd h (by omega)) (fun _ => ?_)
        refine j_aload_n C 29 2 dX1_goDown_29 rfl rfl ?_
        refine j_get C 30 (ci := 1) hL rfl 8 (wd_o8 ad ro c Z1 L) 0 (by decide) f32 rfl (v := .ref (ad 1)) rfl dX1_goDown_30 ?_
        refine j_iload_n C 33 1 dX1_goDown_33 rfl rfl ?_
        refine j_callI (mc := 0) (ms := 0) C 34 (c_X4_kind (jl κ) D ad ro c Z1 L (u) (by omega)) gX1_goDown_X4_kind rfl rfl rfl hd_X4_kind (by rw [hR]; exact ⟨Nat.le_of_ble_eq_true rfl, Nat.le_of_ble_eq_true rfl⟩) (ci := 4) rfl 1 (wd_o1 ad ro c Z1 L) rfl (Nat.le_of_ble_eq_true rfl) ⟨Nat.zero_le _, Nat.zero_le _⟩ dX1_goDown_34 (fun r34 _ e34 => ?_)
        refine j_eqi (y := nI (g_kd τ (u))) (e34.trans (hE1 _ hun).1) ?_
        refine j_iconst C 37 (v := nI 3) dX1_goDown_37 rfl ?_
        refine j_icmp_ne_n C 38 77 (by omega) (by omega) dX1_goDown_38 (by decide) (fun h => absurd h (by omega)) (fun _ => ?_)
        refine j_aload_n C 41 2 dX1_goDown_41 rfl rfl ?_
        refine j_get C 42 (ci := 1) hL rfl 8 (wd_o8 ad ro c Z1 L) 7 (by decide) f26 rfl (v := .int (Z1 49 0)) rfl dX1_goDown_42 ?_
        refine j_eqi h49 ?_
        refine j_bipush C 45 (v := nI 23) dX1_goDown_45 rfl ?_
        refine j_icmp_ge_n C 47 77 (by omega) (by omega) dX1_goDown_47 (by decide) (fun h => absurd h (by omega)) (fun _ => ?_)
        refine j_aload_n C 50 2 dX1_goDown_50 rfl rfl ?_
        refine j_get C 51 (ci := 1) hL rfl 8 (wd_o8 ad ro c Z1 L) 6 (by decide) f23 rfl (v := .ref (ad 25)) rfl dX1_goDown_51 ?_
        refine j_aload_n C 54 2 dX1_goDown_54 rfl rfl ?_
        refine j_get C 55 (ci := 1) hL rfl 8 (wd_o8 ad ro c Z1 L) 7 (by decide) f26 rfl (v := .int (Z1 49 0)) rfl dX1_goDown_55 ?_
        refine j_eqi h49 ?_
        refine j_aload_n C 58 2 dX1_goDown_58 rfl rfl ?_
        refine j_get C 59 (ci := 1) hL rfl 8 (wd_o8 ad ro c Z1 L) 0 (by decide) f32 rfl (v := .ref (ad 1)) rfl dX1_goDown_59 ?_
        refine j_iload_n C 62 1 dX1_goDown_62 rfl rfl ?_
        refine j_callI (mc := 0) (ms := 0) C 63 (c_X4_right (jl κ) D ad ro c Z1 L (u) (by omega)) gX1_goDown_X4_right rfl rfl rfl hd_X4_right (by rw [hR]; exact ⟨Nat.le_of_ble_eq_true rfl, Nat.le_of_ble_eq_true rfl⟩) (ci := 4) rfl 1 (wd_o1 ad ro c Z1 L) rfl (Nat.le_of_ble_eq_true rfl) ⟨Nat.zero_le _, Nat.zero_le _⟩ dX1_goDown_63 (fun r63 _ e63 => ?_)
        refine j_eqi (y := nI (g_rt τ (u))) (e63.trans (g_E_rt hE1 hun (by omega))) ?_
        refine j_iast C 66 25 0 (f := Z1 25) (wd_a25 ad ro c Z1 L) rfl (by omega) (by decide) (wd_s25 ad ro c Z1 L (upd (Z1 25) (φ0.length) (nI (g_rt τ (u))))) dX1_goDown_66 ?_
        refine j_aload_n C 67 2 dX1_goDown_67 rfl rfl ?_
        refine j_dup C 68 dX1_goDown_68 rfl ?_
        refine j_get C 69 (ci := 1) hL rfl 8 (wd_o8 ad ro c (upR Z1 25 (upd (Z1 25) (φ0.length) (nI (g_rt τ (u))))) L) 7 (by decide) f26 rfl (v := .int (Z1 49 0)) rfl dX1_goDown_69 ?_
        refine j_eqi h49 ?_
        refine j_iconst C 72 (v := nI 1) dX1_goDown_72 rfl ?_
        refine j_iadd_e C 73 dX1_goDown_73 (nI_add _ _) ?_
        refine j_put C 74 (ci := 1) hL tyX1_ok nmX1 rfl 8 (wd_o8 ad ro c (upR Z1 25 (upd (Z1 25) (φ0.length) (nI (g_rt τ (u))))) L) 7 (by decide) f26 rfl rfl (tyX1_ok 7 (by decide)) rfl rfl (Nat.le_of_ble_eq_true rfl) (wd_p49 ad ro c (upR Z1 25 (upd (Z1 25) (φ0.length) (nI (g_rt τ (u))))) L (nI (φ0.length + 1))) dX1_goDown_74 ?_
        refine j_aload_n C 77 2 dX1_goDown_77 rfl rfl ?_
        refine j_iload_n C 78 1 dX1_goDown_78 rfl rfl ?_
        refine j_iload_n C 79 4 dX1_goDown_79 rfl rfl ?_
        refine j_callI (mc := 0) (ms := 0) C 80 (c_X1_below (jl κ) D ad ro c (upR (upR Z1 25 (upd (Z1 25) (φ0.length) (nI (g_rt τ (u))))) 49 (fun _ => nI (φ0.length + 1))) L (u) (x) hwf hr2 hE1 hST1 hT huP hx hb.2.2.2.1) gX1_goDown_X1_below rfl rfl rfl hd_X1_below (by rw [hR]; exact ⟨Nat.le_of_ble_eq_true rfl, Nat.le_of_ble_eq_true rfl⟩) (ci := 1) rfl 8 (wd_o8 ad ro c (upR (upR Z1 25 (upd (Z1 25) (φ0.length) (nI (g_rt τ (u))))) 49 (fun _ => nI (φ0.length + 1))) L) rfl (Nat.le_of_ble_eq_true rfl) ⟨Nat.zero_le _, Nat.zero_le _⟩ dX1_goDown_80 (fun r80 _ e80 => ?_)
        refine j_eqi (y := nI (g_bl τ root (g_T τ root) x u)) (e80) ?_
        refine j_istore_n C 83 (lv' := [(3, .int (nI (g_bl τ root (g_T τ root) x u))), (4, .int (nI (i))), (0, .ref (ad 8)), (1, .int (nI (t))), (2, .int (nI (x)))]) dX1_goDown_83 rfl (by rw [hn]; decide) rfl ?_
        refine j_iinc C 84 1 (v := (nI (i + 1))) (lv' := [(4, .int (nI (i + 1))), (3, .int (nI (g_bl τ root (g_T τ root) x u))), (0, .ref (ad 8)), (1, .int (nI (t))), (2, .int (nI (x)))]) dX1_goDown_84 rfl (nI_add (i) 1) (by rw [hn]; decide) rfl ?_
        refine j_goto C 87 10 dX1_goDown_87 (by decide) ?_
        refine j_lv [0, 1, 2, 3, 4] rfl (ih r (by omega) (g_bl τ root (g_T τ root) x u) (i + 1) (u :: V) (φ0 ++ [g_rt τ u]) (upR (upR Z1 25 (upd (Z1 25) (φ0.length) (nI (g_rt τ (u))))) 49 (fun _ => nI (φ0.length + 1))) (by have := hb.2.1; omega) hb.1 hb.2.2.1 hVu hV2 (by rw [hVl1, hi]) ?_ ?_ (by rw [List.append_assoc]; exact hpth) (g_ar_push h25 rfl) ?_ (g_fr_up (g_fr_up hfr (by decide) _) (by decide) _) _ rfl)
        · rw [List.length_append, List.length_singleton, hpr1, hp1]; omega
        · intro v hv
          rcases List.mem_append.mp hv with z | z
          · exact hφP v z
          · rw [List.mem_singleton.mp z]; exact hrP.1
        · rw [List.length_append]; rfl
      · rw [if_neg hk3, List.nil_append] at hpth
        have hp1 : g_pr τ u = 0 := by unfold g_pr; rw [if_neg hk3]
        refine j_iload C 10 0 dX1_goDown_10 rfl ?_
        refine j_bipush C 12 (v := nI 48) dX1_goDown_12 rfl ?_
        refine j_icmp_ge_n C 14 90 (by omega) (by omega) dX1_goDown_14 (by decide) (fun h => absurd h (by omega)) (fun _ => ?_)
        refine j_aload_n C 17 2 dX1_goDown_17 rfl rfl ?_
        refine j_get C 18 (ci := 1) hL rfl 8 (wd_o8 ad ro c Z1 L) 0 (by decide) f32 rfl (v := .ref (ad 1)) rfl dX1_goDown_18 ?_
        refine j_iload_n C 21 1 dX1_goDown_21 rfl rfl ?_
        refine j_callI (mc := 0) (ms := 0) C 22 (c_X4_kind (jl κ) D ad ro c Z1 L (u) (by omega)) gX1_goDown_X4_kind rfl rfl rfl hd_X4_kind (by rw [hR]; exact ⟨Nat.le_of_ble_eq_true rfl, Nat.le_of_ble_eq_true rfl⟩) (ci := 4) rfl 1 (wd_o1 ad ro c Z1 L) rfl (Nat.le_of_ble_eq_true rfl) ⟨Nat.zero_le _, Nat.zero_le _⟩ dX1_goDown_22 (fun r22 _ e22 => ?_)
        refine j_eqi (y := nI (g_kd τ (u))) (e22.trans (hE1 _ hun).1) ?_
        refine j_iconst C 25 (v := nI 2) dX1_goDown_25 rfl ?_
        refine j_icmp_eq_n C 26 90 (by omega) (by omega) dX1_goDown_26 (by decide) (fun h => absurd h (by omega)) (fun _ => ?_)
        refine j_aload_n C 29 2 dX1_goDown_29 rfl rfl ?_
        refine j_get C 30 (ci := 1) hL rfl 8 (wd_o8 ad ro c Z1 L) 0 (by decide) f32 rfl (v := .ref (ad 1)) rfl dX1_goDown_30 ?_
        refine j_iload_n C 33 1 dX1_goDown_33 rfl rfl ?_
        refine j_callI (mc := 0) (ms := 0) C 34 (c_X4_kind (jl κ) D ad ro c Z1 L (u) (by omega)) gX1_goDown_X4_kind rfl rfl rfl hd_X4_kind (by rw [hR]; exact ⟨Nat.le_of_ble_eq_true rfl, Nat.le_of_ble_eq_true rfl⟩) (ci := 4) rfl 1 (wd_o1 ad ro c Z1 L) rfl (Nat.le_of_ble_eq_true rfl) ⟨Nat.zero_le _, Nat.zero_le _⟩ dX1_goDown_34 (fun r34 _ e34 => ?_)
        refine j_eqi (y := nI (g_kd τ (u))) (e34.trans (hE1 _ hun).1) ?_
        refine j_iconst C 37 (v := nI 3) dX1_goDown_37 rfl ?_
        refine j_icmp_ne_n C 38 77 (by omega) (by omega) dX1_goDown_38 (by decide) (fun _ => ?_) (fun h => absurd h (by omega))
        refine j_aload_n C 77 2 dX1_goDown_77 rfl rfl ?_
        refine j_iload_n C 78 1 dX1_goDown_78 rfl rfl ?_
        refine j_iload_n C 79 4 dX1_goDown_79 rfl rfl ?_
        refine j_callI (mc := 0) (ms := 0) C 80 (c_X1_below (jl κ) D ad ro c Z1 L (u) (x) hwf hr2 hE1 hST1 hT huP hx hb.2.2.2.1) gX1_goDown_X1_below rfl rfl rfl hd_X1_below (by rw [hR]; exact ⟨Nat.le_of_ble_eq_true rfl, Nat.le_of_ble_eq_true rfl⟩) (ci := 1) rfl 8 (wd_o8 ad ro c Z1 L) rfl (Nat.le_of_ble_eq_true rfl) ⟨Nat.zero_le _, Nat.zero_le _⟩ dX1_goDown_80 (fun r80 _ e80 => ?_)
        refine j_eqi (y := nI (g_bl τ root (g_T τ root) x u)) (e80) ?_
        refine j_istore_n C 83 (lv' := [(3, .int (nI (g_bl τ root (g_T τ root) x u))), (4, .int (nI (i))), (0, .ref (ad 8)), (1, .int (nI (t))), (2, .int (nI (x)))]) dX1_goDown_83 rfl (by rw [hn]; decide) rfl ?_
        refine j_iinc C 84 1 (v := (nI (i + 1))) (lv' := [(4, .int (nI (i + 1))), (3, .int (nI (g_bl τ root (g_T τ root) x u))), (0, .ref (ad 8)), (1, .int (nI (t))), (2, .int (nI (x)))]) dX1_goDown_84 rfl (nI_add (i) 1) (by rw [hn]; decide) rfl ?_
        refine j_goto C 87 10 dX1_goDown_87 (by decide) ?_
        refine j_lv [0, 1, 2, 3, 4] rfl (ih r (by omega) (g_bl τ root (g_T τ root) x u) (i + 1) (u :: V) φ0 Z1 (by have := hb.2.1; omega) hb.1 hb.2.2.1 hVu hV2 (by rw [hVl1, hi]) (by rw [hpr1, hp1]; omega) hφP hpth h25 h49 hfr _ rfl)
  refine j_aload_n C 0 0 dX1_goDown_0 rfl rfl ?_
  refine j_iconst C 1 (v := nI 0) dX1_goDown_1 rfl ?_
  refine j_put C 2 (ci := 1) hL tyX1_ok nmX1 rfl 8 (wd_o8 ad ro c Z L) 7 (by decide) f26 rfl rfl (tyX1_ok 7 (by decide)) rfl rfl (Nat.le_of_ble_eq_true rfl) (wd_p49 ad ro c Z L (nI (0))) dX1_goDown_2 ?_
  refine j_iload_n C 5 1 dX1_goDown_5 rfl rfl ?_
  refine j_istore_n C 6 (lv' := [(3, .int (nI (t))), (0, .ref (ad 8)), (1, .int (nI (t))), (2, .int (nI (x)))]) dX1_goDown_6 rfl (by rw [hn]; decide) rfl ?_
  refine j_iconst C 7 (v := nI 0) dX1_goDown_7 rfl ?_
  refine j_istore C 8 (lv' := [(4, .int (nI (0))), (3, .int (nI (t))), (0, .ref (ad 8)), (1, .int (nI (t))), (2, .int (nI (x)))]) dX1_goDown_8 (by rw [hn]; decide) rfl ?_
  exact j_lv [0, 1, 2, 3, 4] rfl (loop (g_rk τ root t) t 0 [] [] (upR Z 49 (fun _ => nI (0))) (Nat.le_refl _) ht hf List.nodup_nil (fun v hv => by cases hv) rfl rfl (fun v hv => by cases hv) rfl g_ar_nil rfl (g_fr_up g_fr_rfl (by decide) _) _ rfl)
set_option maxHeartbeats 4000000 in
set_option maxRecDepth 100000 in
theorem c_X1_readerOf (ll : Launch) (D : va_G) (ad ro : Nat → Nat) (c : Nat → ClassId) (Z : ZT) (L : LT) {n : Nat} {τ : Tb} {root : Nat} (π : List Nat) (x : Nat) (hwf : g_WF n τ) (hr2 : root < n) (hST : g_ST τ root Z) (hT : g_TY τ root (g_T τ root)) (hpi : g_ar (Z 24) 0 π) (hz : Z 48 0 = nI π.length) (hlt : π.length ≤ 369) (hπP : ∀ u, u ∈ π → u ∈ g_P τ root) (hx : x < 8) : cI (S := Unit) ll yX1_readerOf vsX1_readerOf ({ frames := 1, cells := 0, slots := 0, locals := 21 } : Room) D (tysG c) [.ref (ad 8), .int (nI (x))] (wd ad ro c Z L) (fun _ => wd ad ro c Z L) (fun r _ => ((r = -1 ∧ g_frun (g_T τ root) x π.reverse = false) ∨ (∃ (a : Nat) (ha : a < π.length), r = nI a ∧ (g_fi (g_T τ root) π[a]).testBit x = true ∧ g_run τ root (g_T τ root) x π.reverse = g_run τ root (g_T τ root) x (π.take (a + 1)).reverse))) 0 0 := by
  refine cI_start (cc := cX1_readerOf) (maxL := 3) RX1 rfl (by decide +kernel) rfl (Nat.le_of_ble_eq_true rfl) ?_
  intro κ hlκ C hr _ E hR hn
  subst hlκ
  have hL : ∀ w ∈ u_ws RX1 TX1 9, w.before (ja κ) (js κ) = true := fun w h => C.t w (mX1_readerOf_wsX10 w h)
  have f15 : (Cond.fieldLink RX1 15 "GuardedGrammar$Speller" (TX1 4).2.1 (TX1 4).2.2.1).before (ja κ) (js κ) = true := C.t (.fieldLink RX1 15 "GuardedGrammar$Speller" "height" "I") (mX1_readerOf_o _ (by decide +kernel))
  have f36 : (Cond.fieldLink RX1 36 "GuardedGrammar$Speller" (TX1 1).2.1 (TX1 1).2.2.1).before (ja κ) (js κ) = true := C.t (.fieldLink RX1 36 "GuardedGrammar$Speller" "typing" "LGuardedGrammar$Typing;") (mX1_readerOf_o _ (by decide +kernel))
  have f9 : (Cond.fieldLink RX1 9 "GuardedGrammar$Speller" (TX1 3).2.1 (TX1 3).2.2.1).before (ja κ) (js κ) = true := C.t (.fieldLink RX1 9 "GuardedGrammar$Speller" "pile" "[I") (mX1_readerOf_o _ (by decide +kernel))
  show J D κ 0 0 0 [(0, .ref (ad 8)), (1, .int (nI (x)))] [] (wd ad ro c Z L)
  have h48n := hwf.1
  have loop : ∀ i, i ≤ π.length → g_frun (g_T τ root) x π.reverse = g_frun (g_T τ root) x (π.take i).reverse → g_run τ root (g_T τ root) x π.reverse = g_run τ root (g_T τ root) x (π.take i).reverse → ∀ lv, lv_pick lv [0, 1, 2] = [(2, .int (nI i + -1)), (0, .ref (ad 8)), (1, .int (nI x))] → J D κ 0 0 7 lv [] (wd ad ro c Z L) := by
    intro i
    induction i with
    | zero =>
      intro hi h1 h2 lv hlv
      refine j_lv [0, 1, 2] hlv ?_
      refine j_iload_n C 7 0 dX1_readerOf_7 rfl rfl ?_
      refine j_eqi (y := -1) (by decide) ?_
      refine j_if_lt C 8 57 dX1_readerOf_8 (by decide) (fun _ => ?_) (fun h => absurd (by decide) h)
      refine j_iconst C 57 (v := -1) dX1_readerOf_57 rfl ?_
      exact j_ireti C hr E (Nat.le_refl _) (Nat.le_refl _) rfl () (Or.inl ⟨rfl, h1⟩) rfl dX1_readerOf_58
    | succ i ih =>
      intro hi h1 h2 lv hlv
      rw [pk_m1] at hlv
      refine j_lv [0, 1, 2] hlv ?_
      have hlt : i < π.length := by omega
      obtain ⟨t, hu⟩ : ∃ t, t = π[i] := ⟨_, rfl⟩
      have htP : t ∈ g_P τ root := hπP t (by rw [hu]; exact List.getElem_mem hlt)
      have htn := g_P_lt hwf hr2 htP
      have hfe : Z 24 i = nI t := by have q := hpi i hlt; rw [Nat.zero_add] at q; rw [hu]; exact q
      have htk : (π.take (i + 1)).reverse = t :: (π.take i).reverse := by rw [List.take_add_one, List.getElem?_eq_getElem hlt, ← hu]; simp
      have hf256 := (hST.2.2.2 t htP).2.2.2.1
      have hp2 : g_fi (g_T τ root) t &&& 2 ^ x < 2 ^ 31 := e_lt hf256
      refine j_iload_n C 7 0 dX1_readerOf_7 rfl rfl ?_
      refine j_if_lt_n C 8 57 (by omega) dX1_readerOf_8 (by decide) (fun h => absurd h (by omega)) (fun _ => ?_)
      refine j_aload_n C 11 1 dX1_readerOf_11 rfl rfl ?_
      refine j_get C 12 (ci := 1) hL rfl 8 (wd_o8 ad ro c Z L) 1 (by decide) f36 rfl (v := .ref (ad 2)) rfl dX1_readerOf_12 ?_
      refine j_aload_n C 15 1 dX1_readerOf_15 rfl rfl ?_
      refine j_get C 16 (ci := 1) hL rfl 8 (wd_o8 ad ro c Z L) 3 (by decide) f9 rfl (v := .ref (ad 24)) rfl dX1_readerOf_16 ?_
      refine j_iload_n C 19 0 dX1_readerOf_19 rfl rfl ?_
      refine j_iald C 20 24 0 (f := Z 24) (wd_a24 ad ro c Z L) rfl (by omega) (by decide) dX1_readerOf_20 ?_
      refine j_eqi hfe ?_
      refine j_callI (mc := 0) (ms := 0) C 21 (c_X5_firstOf (jl κ) D ad ro c Z L (t) (by omega)) gX1_readerOf_X5_firstOf rfl rfl rfl hd_X5_firstOf (by rw [hR]; exact ⟨Nat.le_of_ble_eq_true rfl, Nat.le_of_ble_eq_true rfl⟩) (ci := 5) rfl 2 (wd_o2 ad ro c Z L) rfl (Nat.le_of_ble_eq_true rfl) ⟨Nat.zero_le _, Nat.zero_le _⟩ dX1_readerOf_21 (fun r21 _ e21 => ?_)
      refine j_eqi (y := nI (g_fi (g_T τ root) t)) (e21.trans (hST.2.2.2 t htP).2.1) ?_
      refine j_iconst C 24 (v := nI 1) dX1_readerOf_24 rfl ?_
      refine j_iload_n C 25 2 dX1_readerOf_25 rfl rfl ?_
      refine j_ishl C 26 dX1_readerOf_26 ?_
      refine j_eqi (e_shl _ hx) ?_
      refine j_iand_e C 27 (z := nI (g_fi (g_T τ root) t &&& 2 ^ x)) dX1_readerOf_27 (e_and _ _) ?_
      refine j_if_eq_n C 28 33 (by omega) dX1_readerOf_28 (by decide) (fun h28 => ?_) (fun h28 => ?_)
      · refine j_aload_n C 33 1 dX1_readerOf_33 rfl rfl ?_
        refine j_get C 34 (ci := 1) hL rfl 8 (wd_o8 ad ro c Z L) 1 (by decide) f36 rfl (v := .ref (ad 2)) rfl dX1_readerOf_34 ?_
        refine j_aload_n C 37 1 dX1_readerOf_37 rfl rfl ?_
        refine j_get C 38 (ci := 1) hL rfl 8 (wd_o8 ad ro c Z L) 3 (by decide) f9 rfl (v := .ref (ad 24)) rfl dX1_readerOf_38 ?_
        refine j_iload_n C 41 0 dX1_readerOf_41 rfl rfl ?_
        refine j_iald C 42 24 0 (f := Z 24) (wd_a24 ad ro c Z L) rfl (by omega) (by decide) dX1_readerOf_42 ?_
        refine j_eqi hfe ?_
        refine j_callI (mc := 0) (ms := 0) C 43 (c_X5_isNullable (jl κ) D ad ro c Z L (t) (g_nu (g_T τ root) t) (by omega) (hST.2.2.2 t htP).1) gX1_readerOf_X5_isNullable rfl rfl rfl hd_X5_isNullable (by rw [hR]; exact ⟨Nat.le_of_ble_eq_true rfl, Nat.le_of_ble_eq_true rfl⟩) (ci := 5) rfl 2 (wd_o2 ad ro c Z L) rfl (Nat.le_of_ble_eq_true rfl) ⟨Nat.zero_le _, Nat.zero_le _⟩ dX1_readerOf_43 (fun r43 _ e43 => ?_)
        refine j_eqi (y := b2 (g_nu (g_T τ root) t)) (e43) ?_
        refine j_if_ne_b C 46 51 dX1_readerOf_46 (by decide) (fun h46 => ?_) (fun h46 => ?_)
        · refine j_iinc C 51 0 (v := nI i + -1) (lv' := [(2, .int (nI i + -1)), (0, .ref (ad 8)), (1, .int (nI (x)))]) dX1_readerOf_51 rfl rfl (by rw [hn]; decide) rfl ?_
          refine j_goto C 54 7 dX1_readerOf_54 (by decide) ?_
          have hb0 := e_bit.mp h28
          refine j_lv [0, 1, 2] rfl (ih (by omega) ?_ ?_ _ rfl)
          · rw [h1, htk]
            show ((g_fi (g_T τ root) t).testBit x || (g_nu (g_T τ root) t && g_frun (g_T τ root) x (π.take i).reverse)) = _
            rw [hb0, h46]; rfl
          · rw [h2, htk]
            exact g_pass hwf hr2 hT x _ t htP (Nat.le_refl _) h46 hb0 _ (fun u hu2 => hπP u (List.mem_of_mem_take (List.mem_reverse.mp hu2)))
        · refine j_iconst C 49 (v := -1) dX1_readerOf_49 rfl ?_
          exact j_ireti C hr E (Nat.le_refl _) (Nat.le_refl _) rfl () (Or.inl ⟨rfl, by rw [h1, htk]; show ((g_fi (g_T τ root) t).testBit x || (g_nu (g_T τ root) t && g_frun (g_T τ root) x (π.take i).reverse)) = false; rw [e_bit.mp h28, h46]; rfl⟩) rfl dX1_readerOf_50
      · refine j_iload_n C 31 0 dX1_readerOf_31 rfl rfl ?_
        exact j_ireti C hr E (Nat.le_refl _) (Nat.le_refl _) rfl () (Or.inr ⟨i, hlt, rfl, by rw [← hu]; cases hbb : (g_fi (g_T τ root) t).testBit x with | true => rfl | false => exact absurd (e_bit.mpr hbb) h28, h2⟩) rfl dX1_readerOf_32
  refine j_aload_n C 0 0 dX1_readerOf_0 rfl rfl ?_
  refine j_get C 1 (ci := 1) hL rfl 8 (wd_o8 ad ro c Z L) 4 (by decide) f15 rfl (v := .int (Z 48 0)) rfl dX1_readerOf_1 ?_
  refine j_eqi hz ?_
  refine j_iconst C 4 (v := nI 1) dX1_readerOf_4 rfl ?_
  refine j_isub_e C 5 (z := nI π.length + -1) dX1_readerOf_5 (e_sub1 _) ?_
  refine j_istore_n C 6 (lv' := [(2, .int (nI π.length + -1)), (0, .ref (ad 8)), (1, .int (nI (x)))]) dX1_readerOf_6 rfl (by rw [hn]; decide) rfl ?_
  exact j_lv [0, 1, 2] rfl (loop π.length (Nat.le_refl _) (by rw [List.take_length]) (by rw [List.take_length]) _ rfl)
