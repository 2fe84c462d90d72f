/-! contracts: Reader -/
set_option maxHeartbeats 4000000 in
set_option maxRecDepth 100000 in
theorem c_X0_await (ll : Launch) (D : va_G) (ad ro : Nat → Nat) (c : Nat → ClassId) (Z : ZT) (L : LT) (x : Int32) (k : Nat) (hz : Z 43 0 = nI k) (hk : k < 945) : cV (S := Unit) ll yX0_await vsX0_await ({ frames := 0, cells := 0, slots := 0, locals := 0 } : Room) D (tysG c) [.ref (ad 4), .int (x)] (wd ad ro c Z L) (fun _ => wd ad ro c (upR (upR Z 23 (upd (Z 23) k x)) 43 (fun _ => nI (k + 1))) L) (fun _ => True) 0 0 := by
  refine cV_start (cc := cX0_await) (maxL := 2) RX0 rfl (by decide +kernel) rfl (Nat.le_of_ble_eq_true rfl) ?_
  intro κ hlκ C hr _ E hR hn
  subst hlκ
  have hL : ∀ w ∈ u_ws RX0 TX0 8, w.before (ja κ) (js κ) = true := fun w h => C.t w (mX0_await_wsX00 w h)
  have f15 : (Cond.fieldLink RX0 15 "GuardedGrammar$Reader" (TX0 3).2.1 (TX0 3).2.2.1).before (ja κ) (js κ) = true := C.t (.fieldLink RX0 15 "GuardedGrammar$Reader" "open" "I") (mX0_await_o _ (by decide +kernel))
  have f9 : (Cond.fieldLink RX0 9 "GuardedGrammar$Reader" (TX0 2).2.1 (TX0 2).2.2.1).before (ja κ) (js κ) = true := C.t (.fieldLink RX0 9 "GuardedGrammar$Reader" "waiting" "[I") (mX0_await_o _ (by decide +kernel))
  show J D κ 0 0 0 [(0, .ref (ad 4)), (1, .int (x))] [] (wd ad ro c Z L)
  refine j_aload_n C 0 0 dX0_await_0 rfl rfl ?_
  refine j_get C 1 (ci := 0) hL rfl 4 (wd_o4 ad ro c Z L) 3 (by decide) f15 rfl (v := .int (Z 43 0)) rfl dX0_await_1 ?_
  refine j_eqi hz ?_
  refine j_sipush C 4 (v := nI 945) dX0_await_4 rfl ?_
  refine j_icmp_ge_n C 7 30 (by omega) (by decide) dX0_await_7 (by decide) (fun h => absurd h (by omega)) (fun _ => ?_)
  refine j_aload_n C 10 0 dX0_await_10 rfl rfl ?_
  refine j_get C 11 (ci := 0) hL rfl 4 (wd_o4 ad ro c Z L) 2 (by decide) f9 rfl (v := .ref (ad 23)) rfl dX0_await_11 ?_
  refine j_aload_n C 14 0 dX0_await_14 rfl rfl ?_
  refine j_get C 15 (ci := 0) hL rfl 4 (wd_o4 ad ro c Z L) 3 (by decide) f15 rfl (v := .int (Z 43 0)) rfl dX0_await_15 ?_
  refine j_eqi hz ?_
  refine j_iload_n C 18 1 dX0_await_18 rfl rfl ?_
  refine j_iast C 19 23 0 (f := Z 23) (wd_a23 ad ro c Z L) rfl (by omega) (by decide) (wd_s23 ad ro c Z L (upd (Z 23) (k) (x))) dX0_await_19 ?_
  refine j_aload_n C 20 0 dX0_await_20 rfl rfl ?_
  refine j_dup C 21 dX0_await_21 rfl ?_
  refine j_get C 22 (ci := 0) hL rfl 4 (wd_o4 ad ro c (upR Z 23 (upd (Z 23) (k) (x))) L) 3 (by decide) f15 rfl (v := .int (Z 43 0)) rfl dX0_await_22 ?_
  refine j_eqi hz ?_
  refine j_iconst C 25 (v := nI 1) dX0_await_25 rfl ?_
  refine j_iadd_e C 26 dX0_await_26 (nI_add _ _) ?_
  refine j_put C 27 (ci := 0) hL tyX0_ok nmX0 rfl 4 (wd_o4 ad ro c (upR Z 23 (upd (Z 23) (k) (x))) L) 3 (by decide) f15 rfl rfl (tyX0_ok 3 (by decide)) rfl rfl (Nat.le_of_ble_eq_true rfl) (wd_p43 ad ro c (upR Z 23 (upd (Z 23) (k) (x))) L (nI (k + 1))) dX0_await_27 ?_
  exact j_vreti C hr E (Nat.le_refl _) (Nat.le_refl _) () trivial rfl dX0_await_30
set_option maxHeartbeats 4000000 in
set_option maxRecDepth 100000 in
theorem c_X0_readLetter (ll : Launch) (D : va_G) (ad ro : Nat → Nat) (c : Nat → ClassId) (Z : ZT) (L : LT) {w σ l : List Nat} {p : Nat} (k : Nat) (hwd : g_WD w (Z 42 0) (Z 22)) (hRS : g_RS Z L σ p l) (hp : p ≤ w.length) (hk : k < 8) : cI (S := ZT × LT) ll yX0_readLetter vsX0_readLetter ({ frames := 1, cells := 0, slots := 0, locals := 21 } : Room) D (tysG c) [.ref (ad 4), .int (nI (k)), .ref (ad 3)] (wd ad ro c Z L) (fun u => wd ad ro c u.1 u.2) (fun r u => (g_nx w p = k → r = nI 1 ∧ g_RS u.1 u.2 σ (p + 1) l) ∧ (g_nx w p ≠ k → r = nI 0 ∧ u.1 44 0 = nI p) ∧ g_fr [23, 43, 44, 46] Z u.1 ∧ g_fl [26] L u.2) 0 0 := by
  refine cI_start (cc := cX0_readLetter) (maxL := 3) RX0 rfl (by decide +kernel) rfl (Nat.le_of_ble_eq_true rfl) ?_
  intro κ hlκ C hr _ E hR hn
  subst hlκ
  have hL : ∀ w ∈ u_ws RX0 TX0 8, w.before (ja κ) (js κ) = true := fun w h => C.t w (mX0_readLetter_wsX00 w h)
  have f19 : (Cond.fieldLink RX0 19 "GuardedGrammar$Reader" (TX0 4).2.1 (TX0 4).2.2.1).before (ja κ) (js κ) = true := C.t (.fieldLink RX0 19 "GuardedGrammar$Reader" "place" "I") (mX0_readLetter_o _ (by decide +kernel))
  show J D κ 0 0 0 [(0, .ref (ad 4)), (1, .int (nI (k))), (2, .ref (ad 3))] [] (wd ad ro c Z L)
  have h40 := hwd.1
  by_cases hpl : w.length ≤ p
  · have hx := g_nx_out hpl
    refine j_aload_n C 0 0 dX0_readLetter_0 rfl rfl ?_
    refine j_get C 1 (ci := 0) hL rfl 4 (wd_o4 ad ro c Z L) 4 (by decide) f19 rfl (v := .int (Z 44 0)) rfl dX0_readLetter_1 ?_
    refine j_eqi hRS.2.2.1 ?_
    refine j_aload_n C 4 2 dX0_readLetter_4 rfl rfl ?_
    refine j_callI (mc := 0) (ms := 0) C 5 (c_X6_size (jl κ) D ad ro c Z L ) gX0_readLetter_X6_size rfl rfl rfl hd_X6_size (by rw [hR]; exact ⟨Nat.le_of_ble_eq_true rfl, Nat.le_of_ble_eq_true rfl⟩) (ci := 6) rfl 3 (wd_o3 ad ro c Z L) rfl (Nat.le_of_ble_eq_true rfl) ⟨Nat.zero_le _, Nat.zero_le _⟩ dX0_readLetter_5 (fun r5 _ e5 => ?_)
    refine j_eqi (y := nI (w.length)) (e5.trans hwd.2.1) ?_
    refine j_icmp_ge_n C 8 23 (by omega) (by omega) dX0_readLetter_8 (by decide) (fun _ => ?_) (fun h => absurd hpl (by omega))
    refine j_iconst C 23 (v := nI 0) dX0_readLetter_23 rfl ?_
    exact j_ireti C hr E (Nat.le_refl _) (Nat.le_refl _) (by decide) (Z, L) ⟨fun z => by omega, fun _ => ⟨rfl, hRS.2.2.1⟩, g_fr_rfl, g_fl_rfl⟩ rfl dX0_readLetter_24
  · have hx := g_WD_at hwd (show p < w.length by omega)
    refine j_aload_n C 0 0 dX0_readLetter_0 rfl rfl ?_
    refine j_get C 1 (ci := 0) hL rfl 4 (wd_o4 ad ro c Z L) 4 (by decide) f19 rfl (v := .int (Z 44 0)) rfl dX0_readLetter_1 ?_
    refine j_eqi hRS.2.2.1 ?_
    refine j_aload_n C 4 2 dX0_readLetter_4 rfl rfl ?_
    refine j_callI (mc := 0) (ms := 0) C 5 (c_X6_size (jl κ) D ad ro c Z L ) gX0_readLetter_X6_size rfl rfl rfl hd_X6_size (by rw [hR]; exact ⟨Nat.le_of_ble_eq_true rfl, Nat.le_of_ble_eq_true rfl⟩) (ci := 6) rfl 3 (wd_o3 ad ro c Z L) rfl (Nat.le_of_ble_eq_true rfl) ⟨Nat.zero_le _, Nat.zero_le _⟩ dX0_readLetter_5 (fun r5 _ e5 => ?_)
    refine j_eqi (y := nI (w.length)) (e5.trans hwd.2.1) ?_
    refine j_icmp_ge_n C 8 23 (by omega) (by omega) dX0_readLetter_8 (by decide) (fun h => absurd h hpl) (fun _ => ?_)
    refine j_aload_n C 11 2 dX0_readLetter_11 rfl rfl ?_
    refine j_aload_n C 12 0 dX0_readLetter_12 rfl rfl ?_
    refine j_get C 13 (ci := 0) hL rfl 4 (wd_o4 ad ro c Z L) 4 (by decide) f19 rfl (v := .int (Z 44 0)) rfl dX0_readLetter_13 ?_
    refine j_eqi hRS.2.2.1 ?_
    refine j_callI (mc := 0) (ms := 0) C 16 (c_X6_at (jl κ) D ad ro c Z L (p) (by omega)) gX0_readLetter_X6_at rfl rfl rfl hd_X6_at (by rw [hR]; exact ⟨Nat.le_of_ble_eq_true rfl, Nat.le_of_ble_eq_true rfl⟩) (ci := 6) rfl 3 (wd_o3 ad ro c Z L) rfl (Nat.le_of_ble_eq_true rfl) ⟨Nat.zero_le _, Nat.zero_le _⟩ dX0_readLetter_16 (fun r16 _ e16 => ?_)
    refine j_eqi (y := nI (g_nx w p)) (e16.trans (g_WD_at hwd (by omega)).1) ?_
    refine j_iload_n C 19 1 dX0_readLetter_19 rfl rfl ?_
    refine j_icmp_eq_n C 20 25 (by omega) (by omega) dX0_readLetter_20 (by decide) (fun h20 => ?_) (fun h20 => ?_)
    · refine j_aload_n C 25 0 dX0_readLetter_25 rfl rfl ?_
      refine j_dup C 26 dX0_readLetter_26 rfl ?_
      refine j_get C 27 (ci := 0) hL rfl 4 (wd_o4 ad ro c Z L) 4 (by decide) f19 rfl (v := .int (Z 44 0)) rfl dX0_readLetter_27 ?_
      refine j_eqi hRS.2.2.1 ?_
      refine j_iconst C 30 (v := nI 1) dX0_readLetter_30 rfl ?_
      refine j_iadd_e C 31 dX0_readLetter_31 (nI_add _ _) ?_
      refine j_put C 32 (ci := 0) hL tyX0_ok nmX0 rfl 4 (wd_o4 ad ro c Z L) 4 (by decide) f19 rfl rfl (tyX0_ok 4 (by decide)) rfl rfl (Nat.le_of_ble_eq_true rfl) (wd_p44 ad ro c Z L (nI (p + 1))) dX0_readLetter_32 ?_
      refine j_iconst C 35 (v := nI 1) dX0_readLetter_35 rfl ?_
      exact j_ireti C hr E (Nat.le_refl _) (Nat.le_refl _) (by decide) ((upR Z 44 (fun _ => nI (p + 1))), L) ⟨fun _ => ⟨rfl, hRS.1, hRS.2.1, rfl, hRS.2.2.2⟩, fun z => absurd h20 z, g_fr_up g_fr_rfl (by decide) _, g_fl_rfl⟩ rfl dX0_readLetter_36
    · refine j_iconst C 23 (v := nI 0) dX0_readLetter_23 rfl ?_
      exact j_ireti C hr E (Nat.le_refl _) (Nat.le_refl _) (by decide) (Z, L) ⟨fun z => absurd z h20, fun _ => ⟨rfl, hRS.2.2.1⟩, g_fr_rfl, g_fl_rfl⟩ rfl dX0_readLetter_24
theorem g_RS_add {Z : ZT} {L : LT} {σ : List Nat} {p : Nat} {l : List Nat} (h : g_RS Z L σ p l) (s : Nat) (hs : s ≤ 1) (t : Nat) {x : Int64} (hx : ∀ i, i < 64 → g_bt x i = if i = l.length % 64 then decide (s = 1) else g_bt (L 26 (l.length / 64)) i) :
    g_RS (upR (upR (upR Z 46 (fun _ => nI (l.length + 1))) 23 (upd (Z 23) σ.length (nI t))) 43 (fun _ => nI (σ.length + 1))) (upR L 26 (vp_updL (L 26) (l.length / 64) x)) (t :: σ) p (l ++ [s]) := by
  obtain ⟨h1, h2, h3, h4, h5⟩ := h
  refine ⟨by rw [List.length_cons]; rfl, ?_, h3, ?_, g_tr_push h5 hs hx⟩
  · rw [List.reverse_cons]
    exact g_ar_push h2 (by simp)
  · rw [List.length_append]; rfl
set_option maxHeartbeats 4000000 in
set_option maxRecDepth 100000 in
theorem c_X0_choose (ll : Launch) (D : va_G) (ad ro : Nat → Nat) (c : Nat → ClassId) (Z : ZT) (L : LT) {n : Nat} {τ : Tb} {root : Nat} {w σ l : List Nat} {p : Nat} (t : Nat) (hwf : g_WF n τ) (hr2 : root < n) (hE : g_ED n τ Z) (hwd : g_WD w (Z 42 0) (Z 22)) (hRS : g_RS Z L σ p l) (hp : p ≤ w.length) (hST : g_ST τ root Z) (ht : t ∈ g_P τ root) (hk4 : g_kd τ t = 4) (hσ : σ.length < 945) (hl : l.length < 16384) : cI (S := ZT × LT) ll yX0_choose vsX0_choose ({ frames := 2, cells := 0, slots := 0, locals := 45 } : Room) D (tysG c) [.ref (ad 4), .int (nI (t)), .ref (ad 3)] (wd ad ro c Z L) (fun u => wd ad ro c u.1 u.2) (fun r u => g_vi τ root (g_T τ root) (g_nx w p) t σ p l r u.1 u.2 ∧ g_fr [23, 43, 44, 46] Z u.1 ∧ g_fl [26] L u.2) 0 0 := by
  refine cI_start (cc := cX0_choose) (maxL := 5) RX0 rfl (by decide +kernel) rfl (Nat.le_of_ble_eq_true rfl) ?_
  intro κ hlκ C hr _ E hR hn
  subst hlκ
  have hL : ∀ w ∈ u_ws RX0 TX0 8, w.before (ja κ) (js κ) = true := fun w h => C.t w (mX0_choose_wsX00 w h)
  have f19 : (Cond.fieldLink RX0 19 "GuardedGrammar$Reader" (TX0 4).2.1 (TX0 4).2.2.1).before (ja κ) (js κ) = true := C.t (.fieldLink RX0 19 "GuardedGrammar$Reader" "place" "I") (mX0_choose_o _ (by decide +kernel))
  have f39 : (Cond.fieldLink RX0 39 "GuardedGrammar$Reader" (TX0 1).2.1 (TX0 1).2.2.1).before (ja κ) (js κ) = true := C.t (.fieldLink RX0 39 "GuardedGrammar$Reader" "typing" "LGuardedGrammar$Typing;") (mX0_choose_o _ (by decide +kernel))
  have f28 : (Cond.fieldLink RX0 28 "GuardedGrammar$Reader" (TX0 6).2.1 (TX0 6).2.2.1).before (ja κ) (js κ) = true := C.t (.fieldLink RX0 28 "GuardedGrammar$Reader" "made" "LGuardedGrammar$Steps;") (mX0_choose_o _ (by decide +kernel))
  have f35 : (Cond.fieldLink RX0 35 "GuardedGrammar$Reader" (TX0 0).2.1 (TX0 0).2.2.1).before (ja κ) (js κ) = true := C.t (.fieldLink RX0 35 "GuardedGrammar$Reader" "terms" "LGuardedGrammar$Terms;") (mX0_choose_o _ (by decide +kernel))
  show J D κ 0 0 0 [(0, .ref (ad 4)), (1, .int (nI (t))), (2, .ref (ad 3))] [] (wd ad ro c Z L)
  have h40 := hwd.1
  have h48n := hwf.1
  have htn := g_P_lt hwf hr2 ht
  have hY := hST.2.2.2
  have hlP := g_lfP hwf hr2 ht (Or.inr (Or.inl hk4))
  have hrP := g_rtP hwf hr2 ht (Or.inr hk4)
  by_cases hpl : w.length ≤ p
  · have hx := g_nx_out hpl
    refine j_aload_n C 0 0 dX0_choose_0 rfl rfl ?_
    refine j_get C 1 (ci := 0) hL rfl 4 (wd_o4 ad ro c Z L) 4 (by decide) f19 rfl (v := .int (Z 44 0)) rfl dX0_choose_1 ?_
    refine j_eqi hRS.2.2.1 ?_
    refine j_aload_n C 4 2 dX0_choose_4 rfl rfl ?_
    refine j_callI (mc := 0) (ms := 0) C 5 (c_X6_size (jl κ) D ad ro c Z L ) gX0_choose_X6_size rfl rfl rfl hd_X6_size (by rw [hR]; exact ⟨Nat.le_of_ble_eq_true rfl, Nat.le_of_ble_eq_true rfl⟩) (ci := 6) rfl 3 (wd_o3 ad ro c Z L) rfl (Nat.le_of_ble_eq_true rfl) ⟨Nat.zero_le _, Nat.zero_le _⟩ dX0_choose_5 (fun r5 _ e5 => ?_)
    refine j_eqi (y := nI (w.length)) (e5.trans hwd.2.1) ?_
    refine j_icmp_ge_n C 8 24 (by omega) (by omega) dX0_choose_8 (by decide) (fun _ => ?_) (fun h => absurd hpl (by omega))
    refine j_iconst C 24 (v := nI 0) dX0_choose_24 rfl ?_
    refine j_istore_n C 25 (lv' := [(3, .int (nI (0))), (0, .ref (ad 4)), (1, .int (nI (t))), (2, .ref (ad 3))]) dX0_choose_25 rfl (by rw [hn]; decide) rfl ?_
    refine j_aload_n C 26 1 dX0_choose_26 rfl rfl ?_
    refine j_get C 27 (ci := 0) hL rfl 4 (wd_o4 ad ro c Z L) 1 (by decide) f39 rfl (v := .ref (ad 2)) rfl dX0_choose_27 ?_
    refine j_iload_n C 30 2 dX0_choose_30 rfl rfl ?_
    refine j_iload_n C 31 0 dX0_choose_31 rfl rfl ?_
    refine j_callI (mc := 0) (ms := 0) C 32 (c_X5_side (jl κ) D ad ro c Z L t (0) (g_lf τ t) (g_rt τ t) (g_nu (g_T τ root) (g_lf τ t)) (g_nu (g_T τ root) (g_rt τ t)) (g_fi (g_T τ root) (g_lf τ t)) (g_fi (g_T τ root) (g_rt τ t)) (by omega) (g_E_lf hE htn (by omega)) (g_E_rt hE htn (by omega)) (by omega) (by omega) (hY _ hlP.1).1 (hY _ hrP.1).1 (hY _ hlP.1).2.1 (hY _ hrP.1).2.1 (hY _ hlP.1).2.2.2.1 (hY _ hrP.1).2.2.2.1) gX0_choose_X5_side rfl rfl rfl hd_X5_side (by rw [hR]; exact ⟨Nat.le_of_ble_eq_true rfl, Nat.le_of_ble_eq_true rfl⟩) (ci := 5) rfl 2 (wd_o2 ad ro c Z L) rfl (Nat.le_of_ble_eq_true rfl) ⟨Nat.zero_le _, Nat.zero_le _⟩ dX0_choose_32 (fun r32 _ e32 => ?_)
    refine j_eqi (e32.trans (g_side (x := g_nx w p) (hY _ hlP.1).2.2.2.1 (hY _ hrP.1).2.2.2.1 (by rw [if_neg (by omega)]))) ?_
    rcases g_cho3 τ (g_T τ root) (g_nx w p) t with hc | hc | hc
    · refine j_eqi (y := nI 0) (by rw [hc]; rfl) ?_
      refine j_istore C 35 (lv' := [(4, .int (nI (0))), (3, .int (nI (0))), (0, .ref (ad 4)), (1, .int (nI (t))), (2, .ref (ad 3))]) dX0_choose_35 (by rw [hn]; decide) rfl ?_
      refine j_iload C 37 0 dX0_choose_37 rfl ?_
      refine j_iconst C 39 (v := -1) dX0_choose_39 rfl ?_
      refine j_icmp_ne C 40 45 dX0_choose_40 (by decide) (fun _ => ?_) (fun h => absurd h (by decide))
      refine j_aload_n C 45 2 dX0_choose_45 rfl rfl ?_
      refine j_get C 46 (ci := 0) hL rfl 4 (wd_o4 ad ro c Z L) 6 (by decide) f28 rfl (v := .ref (ad 5)) rfl dX0_choose_46 ?_
      refine j_iload C 49 0 dX0_choose_49 rfl ?_
      refine j_callV (mc := 0) (ms := 0) C 51 (c_X2_add (jl κ) D ad ro c Z L 0 l.length hRS.2.2.2.1 hl (by decide)) gX0_choose_X2_add rfl rfl rfl hd_X2_add (by rw [hR]; exact ⟨Nat.le_of_ble_eq_true rfl, Nat.le_of_ble_eq_true rfl⟩) (ci := 2) rfl 5 (wd_o5 ad ro c Z L) rfl (Nat.le_of_ble_eq_true rfl) ⟨Nat.zero_le _, Nat.zero_le _⟩ dX0_choose_51 (fun x51 q51 => ?_)
      refine j_aload_n C 54 2 dX0_choose_54 rfl rfl ?_
      refine j_iload C 55 0 dX0_choose_55 rfl ?_
      refine j_if_ne_n C 57 71 (by decide) dX0_choose_57 (by decide) (fun h => absurd rfl h) (fun _ => ?_)
      refine j_aload_n C 60 2 dX0_choose_60 rfl rfl ?_
      refine j_get C 61 (ci := 0) hL rfl 4 (wd_o4 ad ro c (upR Z 46 (fun _ => nI (l.length + 1))) (upR L 26 (vp_updL (L 26) (l.length / 64) x51))) 0 (by decide) f35 rfl (v := .ref (ad 1)) rfl dX0_choose_61 ?_
      refine j_iload_n C 64 3 dX0_choose_64 rfl rfl ?_
      refine j_callI (mc := 0) (ms := 0) C 65 (c_X4_left (jl κ) D ad ro c (upR Z 46 (fun _ => nI (l.length + 1))) (upR L 26 (vp_updL (L 26) (l.length / 64) x51)) (t) (by omega)) gX0_choose_X4_left rfl rfl rfl hd_X4_left (by rw [hR]; exact ⟨Nat.le_of_ble_eq_true rfl, Nat.le_of_ble_eq_true rfl⟩) (ci := 4) rfl 1 (wd_o1 ad ro c (upR Z 46 (fun _ => nI (l.length + 1))) (upR L 26 (vp_updL (L 26) (l.length / 64) x51))) rfl (Nat.le_of_ble_eq_true rfl) ⟨Nat.zero_le _, Nat.zero_le _⟩ dX0_choose_65 (fun r65 _ e65 => ?_)
      refine j_eqi (y := nI (g_lf τ (t))) (e65.trans (g_E_lf hE htn (by omega))) ?_
      refine j_goto C 68 79 dX0_choose_68 (by decide) ?_
      refine j_callV (mc := 0) (ms := 0) C 79 (c_X0_await (jl κ) D ad ro c (upR Z 46 (fun _ => nI (l.length + 1))) (upR L 26 (vp_updL (L 26) (l.length / 64) x51)) (nI (g_lf τ (t))) (σ.length) (hRS.1) (by omega)) gX0_choose_X0_await rfl rfl rfl hd_X0_await (by rw [hR]; exact ⟨Nat.le_of_ble_eq_true rfl, Nat.le_of_ble_eq_true rfl⟩) (ci := 0) rfl 4 (wd_o4 ad ro c (upR Z 46 (fun _ => nI (l.length + 1))) (upR L 26 (vp_updL (L 26) (l.length / 64) x51))) rfl (Nat.le_of_ble_eq_true rfl) ⟨Nat.zero_le _, Nat.zero_le _⟩ dX0_choose_79 (fun _ _ => ?_)
      refine j_iconst C 82 (v := nI 1) dX0_choose_82 rfl ?_
      exact j_ireti C hr E (Nat.le_refl _) (Nat.le_refl _) (by decide) ((upR (upR (upR Z 46 (fun _ => nI (l.length + 1))) 23 (upd (Z 23) (σ.length) (nI (g_lf τ (t))))) 43 (fun _ => nI (σ.length + 1))), (upR L 26 (vp_updL (L 26) (l.length / 64) x51))) ⟨g_vi_4 (σ' := g_lf τ t :: σ) (by rw [g_st4 hk4, if_neg (by omega), if_pos hc]) hk4 (by rw [hc]; exact g_RS_add hRS 0 (by decide) (g_lf τ t) q51), g_fr_up (g_fr_up (g_fr_up g_fr_rfl (by decide) _) (by decide) _) (by decide) _, g_fl_up g_fl_rfl (by decide) _⟩ rfl dX0_choose_83
    · refine j_eqi (y := nI 1) (by rw [hc]; rfl) ?_
      refine j_istore C 35 (lv' := [(4, .int (nI (1))), (3, .int (nI (0))), (0, .ref (ad 4)), (1, .int (nI (t))), (2, .ref (ad 3))]) dX0_choose_35 (by rw [hn]; decide) rfl ?_
      refine j_iload C 37 0 dX0_choose_37 rfl ?_
      refine j_iconst C 39 (v := -1) dX0_choose_39 rfl ?_
      refine j_icmp_ne C 40 45 dX0_choose_40 (by decide) (fun _ => ?_) (fun h => absurd h (by decide))
      refine j_aload_n C 45 2 dX0_choose_45 rfl rfl ?_
      refine j_get C 46 (ci := 0) hL rfl 4 (wd_o4 ad ro c Z L) 6 (by decide) f28 rfl (v := .ref (ad 5)) rfl dX0_choose_46 ?_
      refine j_iload C 49 0 dX0_choose_49 rfl ?_
      refine j_callV (mc := 0) (ms := 0) C 51 (c_X2_add (jl κ) D ad ro c Z L 1 l.length hRS.2.2.2.1 hl (by decide)) gX0_choose_X2_add rfl rfl rfl hd_X2_add (by rw [hR]; exact ⟨Nat.le_of_ble_eq_true rfl, Nat.le_of_ble_eq_true rfl⟩) (ci := 2) rfl 5 (wd_o5 ad ro c Z L) rfl (Nat.le_of_ble_eq_true rfl) ⟨Nat.zero_le _, Nat.zero_le _⟩ dX0_choose_51 (fun x51 q51 => ?_)
      refine j_aload_n C 54 2 dX0_choose_54 rfl rfl ?_
      refine j_iload C 55 0 dX0_choose_55 rfl ?_
      refine j_if_ne_n C 57 71 (by decide) dX0_choose_57 (by decide) (fun _ => ?_) (fun h => absurd h (by decide))
      refine j_aload_n C 71 2 dX0_choose_71 rfl rfl ?_
      refine j_get C 72 (ci := 0) hL rfl 4 (wd_o4 ad ro c (upR Z 46 (fun _ => nI (l.length + 1))) (upR L 26 (vp_updL (L 26) (l.length / 64) x51))) 0 (by decide) f35 rfl (v := .ref (ad 1)) rfl dX0_choose_72 ?_
      refine j_iload_n C 75 3 dX0_choose_75 rfl rfl ?_
      refine j_callI (mc := 0) (ms := 0) C 76 (c_X4_right (jl κ) D ad ro c (upR Z 46 (fun _ => nI (l.length + 1))) (upR L 26 (vp_updL (L 26) (l.length / 64) x51)) (t) (by omega)) gX0_choose_X4_right rfl rfl rfl hd_X4_right (by rw [hR]; exact ⟨Nat.le_of_ble_eq_true rfl, Nat.le_of_ble_eq_true rfl⟩) (ci := 4) rfl 1 (wd_o1 ad ro c (upR Z 46 (fun _ => nI (l.length + 1))) (upR L 26 (vp_updL (L 26) (l.length / 64) x51))) rfl (Nat.le_of_ble_eq_true rfl) ⟨Nat.zero_le _, Nat.zero_le _⟩ dX0_choose_76 (fun r76 _ e76 => ?_)
      refine j_eqi (y := nI (g_rt τ (t))) (e76.trans (g_E_rt hE htn (by omega))) ?_
      refine j_callV (mc := 0) (ms := 0) C 79 (c_X0_await (jl κ) D ad ro c (upR Z 46 (fun _ => nI (l.length + 1))) (upR L 26 (vp_updL (L 26) (l.length / 64) x51)) (nI (g_rt τ (t))) (σ.length) (hRS.1) (by omega)) gX0_choose_X0_await rfl rfl rfl hd_X0_await (by rw [hR]; exact ⟨Nat.le_of_ble_eq_true rfl, Nat.le_of_ble_eq_true rfl⟩) (ci := 0) rfl 4 (wd_o4 ad ro c (upR Z 46 (fun _ => nI (l.length + 1))) (upR L 26 (vp_updL (L 26) (l.length / 64) x51))) rfl (Nat.le_of_ble_eq_true rfl) ⟨Nat.zero_le _, Nat.zero_le _⟩ dX0_choose_79 (fun _ _ => ?_)
      refine j_iconst C 82 (v := nI 1) dX0_choose_82 rfl ?_
      exact j_ireti C hr E (Nat.le_refl _) (Nat.le_refl _) (by decide) ((upR (upR (upR Z 46 (fun _ => nI (l.length + 1))) 23 (upd (Z 23) (σ.length) (nI (g_rt τ (t))))) 43 (fun _ => nI (σ.length + 1))), (upR L 26 (vp_updL (L 26) (l.length / 64) x51))) ⟨g_vi_4 (σ' := g_rt τ t :: σ) (by rw [g_st4 hk4, if_neg (by omega), if_neg (by omega)]) hk4 (by rw [hc]; exact g_RS_add hRS 1 (by decide) (g_rt τ t) q51), g_fr_up (g_fr_up (g_fr_up g_fr_rfl (by decide) _) (by decide) _) (by decide) _, g_fl_up g_fl_rfl (by decide) _⟩ rfl dX0_choose_83
    · refine j_eqi (y := -1) (by rw [hc]; rfl) ?_
      refine j_istore C 35 (lv' := [(4, .int (-1)), (3, .int (nI (0))), (0, .ref (ad 4)), (1, .int (nI (t))), (2, .ref (ad 3))]) dX0_choose_35 (by rw [hn]; decide) rfl ?_
      refine j_iload C 37 0 dX0_choose_37 rfl ?_
      refine j_iconst C 39 (v := -1) dX0_choose_39 rfl ?_
      refine j_icmp_ne C 40 45 dX0_choose_40 (by decide) (fun h => absurd rfl h) (fun _ => ?_)
      refine j_iconst C 43 (v := nI 0) dX0_choose_43 rfl ?_
      exact j_ireti C hr E (Nat.le_refl _) (Nat.le_refl _) (by decide) (Z, L) ⟨g_vi_2 (by rw [g_st4 hk4, if_pos hc]) hRS.2.2.1, g_fr_rfl, g_fl_rfl⟩ rfl dX0_choose_44
  · have hx := g_WD_at hwd (show p < w.length by omega)
    refine j_aload_n C 0 0 dX0_choose_0 rfl rfl ?_
    refine j_get C 1 (ci := 0) hL rfl 4 (wd_o4 ad ro c Z L) 4 (by decide) f19 rfl (v := .int (Z 44 0)) rfl dX0_choose_1 ?_
    refine j_eqi hRS.2.2.1 ?_
    refine j_aload_n C 4 2 dX0_choose_4 rfl rfl ?_
    refine j_callI (mc := 0) (ms := 0) C 5 (c_X6_size (jl κ) D ad ro c Z L ) gX0_choose_X6_size rfl rfl rfl hd_X6_size (by rw [hR]; exact ⟨Nat.le_of_ble_eq_true rfl, Nat.le_of_ble_eq_true rfl⟩) (ci := 6) rfl 3 (wd_o3 ad ro c Z L) rfl (Nat.le_of_ble_eq_true rfl) ⟨Nat.zero_le _, Nat.zero_le _⟩ dX0_choose_5 (fun r5 _ e5 => ?_)
    refine j_eqi (y := nI (w.length)) (e5.trans hwd.2.1) ?_
    refine j_icmp_ge_n C 8 24 (by omega) (by omega) dX0_choose_8 (by decide) (fun h => absurd h hpl) (fun _ => ?_)
    refine j_iconst C 11 (v := nI 1) dX0_choose_11 rfl ?_
    refine j_aload_n C 12 2 dX0_choose_12 rfl rfl ?_
    refine j_aload_n C 13 0 dX0_choose_13 rfl rfl ?_
    refine j_get C 14 (ci := 0) hL rfl 4 (wd_o4 ad ro c Z L) 4 (by decide) f19 rfl (v := .int (Z 44 0)) rfl dX0_choose_14 ?_
    refine j_eqi hRS.2.2.1 ?_
    refine j_callI (mc := 0) (ms := 0) C 17 (c_X6_at (jl κ) D ad ro c Z L (p) (by omega)) gX0_choose_X6_at rfl rfl rfl hd_X6_at (by rw [hR]; exact ⟨Nat.le_of_ble_eq_true rfl, Nat.le_of_ble_eq_true rfl⟩) (ci := 6) rfl 3 (wd_o3 ad ro c Z L) rfl (Nat.le_of_ble_eq_true rfl) ⟨Nat.zero_le _, Nat.zero_le _⟩ dX0_choose_17 (fun r17 _ e17 => ?_)
    refine j_eqi (y := nI (g_nx w p)) (e17.trans (g_WD_at hwd (by omega)).1) ?_
    refine j_ishl C 20 dX0_choose_20 ?_
    refine j_eqi (e_shl _ hx.2) ?_
    refine j_goto C 21 25 dX0_choose_21 (by decide) ?_
    refine j_istore_n C 25 (lv' := [(3, .int (nI (2 ^ g_nx w p))), (0, .ref (ad 4)), (1, .int (nI (t))), (2, .ref (ad 3))]) dX0_choose_25 rfl (by rw [hn]; decide) rfl ?_
    refine j_aload_n C 26 1 dX0_choose_26 rfl rfl ?_
    refine j_get C 27 (ci := 0) hL rfl 4 (wd_o4 ad ro c Z L) 1 (by decide) f39 rfl (v := .ref (ad 2)) rfl dX0_choose_27 ?_
    refine j_iload_n C 30 2 dX0_choose_30 rfl rfl ?_
    refine j_iload_n C 31 0 dX0_choose_31 rfl rfl ?_
    refine j_callI (mc := 0) (ms := 0) C 32 (c_X5_side (jl κ) D ad ro c Z L t (2 ^ g_nx w p) (g_lf τ t) (g_rt τ t) (g_nu (g_T τ root) (g_lf τ t)) (g_nu (g_T τ root) (g_rt τ t)) (g_fi (g_T τ root) (g_lf τ t)) (g_fi (g_T τ root) (g_rt τ t)) (by omega) (g_E_lf hE htn (by omega)) (g_E_rt hE htn (by omega)) (by omega) (by omega) (hY _ hlP.1).1 (hY _ hrP.1).1 (hY _ hlP.1).2.1 (hY _ hrP.1).2.1 (hY _ hlP.1).2.2.2.1 (hY _ hrP.1).2.2.2.1) gX0_choose_X5_side rfl rfl rfl hd_X5_side (by rw [hR]; exact ⟨Nat.le_of_ble_eq_true rfl, Nat.le_of_ble_eq_true rfl⟩) (ci := 5) rfl 2 (wd_o2 ad ro c Z L) rfl (Nat.le_of_ble_eq_true rfl) ⟨Nat.zero_le _, Nat.zero_le _⟩ dX0_choose_32 (fun r32 _ e32 => ?_)
    refine j_eqi (e32.trans (g_side (x := g_nx w p) (hY _ hlP.1).2.2.2.1 (hY _ hrP.1).2.2.2.1 (by rw [if_pos hx.2]))) ?_
    rcases g_cho3 τ (g_T τ root) (g_nx w p) t with hc | hc | hc
    · refine j_eqi (y := nI 0) (by rw [hc]; rfl) ?_
      refine j_istore C 35 (lv' := [(4, .int (nI (0))), (3, .int (nI (2 ^ g_nx w p))), (0, .ref (ad 4)), (1, .int (nI (t))), (2, .ref (ad 3))]) dX0_choose_35 (by rw [hn]; decide) rfl ?_
      refine j_iload C 37 0 dX0_choose_37 rfl ?_
      refine j_iconst C 39 (v := -1) dX0_choose_39 rfl ?_
      refine j_icmp_ne C 40 45 dX0_choose_40 (by decide) (fun _ => ?_) (fun h => absurd h (by decide))
      refine j_aload_n C 45 2 dX0_choose_45 rfl rfl ?_
      refine j_get C 46 (ci := 0) hL rfl 4 (wd_o4 ad ro c Z L) 6 (by decide) f28 rfl (v := .ref (ad 5)) rfl dX0_choose_46 ?_
      refine j_iload C 49 0 dX0_choose_49 rfl ?_
      refine j_callV (mc := 0) (ms := 0) C 51 (c_X2_add (jl κ) D ad ro c Z L 0 l.length hRS.2.2.2.1 hl (by decide)) gX0_choose_X2_add rfl rfl rfl hd_X2_add (by rw [hR]; exact ⟨Nat.le_of_ble_eq_true rfl, Nat.le_of_ble_eq_true rfl⟩) (ci := 2) rfl 5 (wd_o5 ad ro c Z L) rfl (Nat.le_of_ble_eq_true rfl) ⟨Nat.zero_le _, Nat.zero_le _⟩ dX0_choose_51 (fun x51 q51 => ?_)
      refine j_aload_n C 54 2 dX0_choose_54 rfl rfl ?_
      refine j_iload C 55 0 dX0_choose_55 rfl ?_
      refine j_if_ne_n C 57 71 (by decide) dX0_choose_57 (by decide) (fun h => absurd rfl h) (fun _ => ?_)
      refine j_aload_n C 60 2 dX0_choose_60 rfl rfl ?_
      refine j_get C 61 (ci := 0) hL rfl 4 (wd_o4 ad ro c (upR Z 46 (fun _ => nI (l.length + 1))) (upR L 26 (vp_updL (L 26) (l.length / 64) x51))) 0 (by decide) f35 rfl (v := .ref (ad 1)) rfl dX0_choose_61 ?_
      refine j_iload_n C 64 3 dX0_choose_64 rfl rfl ?_
      refine j_callI (mc := 0) (ms := 0) C 65 (c_X4_left (jl κ) D ad ro c (upR Z 46 (fun _ => nI (l.length + 1))) (upR L 26 (vp_updL (L 26) (l.length / 64) x51)) (t) (by omega)) gX0_choose_X4_left rfl rfl rfl hd_X4_left (by rw [hR]; exact ⟨Nat.le_of_ble_eq_true rfl, Nat.le_of_ble_eq_true rfl⟩) (ci := 4) rfl 1 (wd_o1 ad ro c (upR Z 46 (fun _ => nI (l.length + 1))) (upR L 26 (vp_updL (L 26) (l.length / 64) x51))) rfl (Nat.le_of_ble_eq_true rfl) ⟨Nat.zero_le _, Nat.zero_le _⟩ dX0_choose_65 (fun r65 _ e65 => ?_)
      refine j_eqi (y := nI (g_lf τ (t))) (e65.trans (g_E_lf hE htn (by omega))) ?_
      refine j_goto C 68 79 dX0_choose_68 (by decide) ?_
      refine j_callV (mc := 0) (ms := 0) C 79 (c_X0_await (jl κ) D ad ro c (upR Z 46 (fun _ => nI (l.length + 1))) (upR L 26 (vp_updL (L 26) (l.length / 64) x51)) (nI (g_lf τ (t))) (σ.length) (hRS.1) (by omega)) gX0_choose_X0_await rfl rfl rfl hd_X0_await (by rw [hR]; exact ⟨Nat.le_of_ble_eq_true rfl, Nat.le_of_ble_eq_true rfl⟩) (ci := 0) rfl 4 (wd_o4 ad ro c (upR Z 46 (fun _ => nI (l.length + 1))) (upR L 26 (vp_updL (L 26) (l.length / 64) x51))) rfl (Nat.le_of_ble_eq_true rfl) ⟨Nat.zero_le _, Nat.zero_le _⟩ dX0_choose_79 (fun _ _ => ?_)
      refine j_iconst C 82 (v := nI 1) dX0_choose_82 rfl ?_
      exact j_ireti C hr E (Nat.le_refl _) (Nat.le_refl _) (by decide) ((upR (upR (upR Z 46 (fun _ => nI (l.length + 1))) 23 (upd (Z 23) (σ.length) (nI (g_lf τ (t))))) 43 (fun _ => nI (σ.length + 1))), (upR L 26 (vp_updL (L 26) (l.length / 64) x51))) ⟨g_vi_4 (σ' := g_lf τ t :: σ) (by rw [g_st4 hk4, if_neg (by omega), if_pos hc]) hk4 (by rw [hc]; exact g_RS_add hRS 0 (by decide) (g_lf τ t) q51), g_fr_up (g_fr_up (g_fr_up g_fr_rfl (by decide) _) (by decide) _) (by decide) _, g_fl_up g_fl_rfl (by decide) _⟩ rfl dX0_choose_83
    · refine j_eqi (y := nI 1) (by rw [hc]; rfl) ?_
      refine j_istore C 35 (lv' := [(4, .int (nI (1))), (3, .int (nI (2 ^ g_nx w p))), (0, .ref (ad 4)), (1, .int (nI (t))), (2, .ref (ad 3))]) dX0_choose_35 (by rw [hn]; decide) rfl ?_
      refine j_iload C 37 0 dX0_choose_37 rfl ?_
      refine j_iconst C 39 (v := -1) dX0_choose_39 rfl ?_
      refine j_icmp_ne C 40 45 dX0_choose_40 (by decide) (fun _ => ?_) (fun h => absurd h (by decide))
      refine j_aload_n C 45 2 dX0_choose_45 rfl rfl ?_
      refine j_get C 46 (ci := 0) hL rfl 4 (wd_o4 ad ro c Z L) 6 (by decide) f28 rfl (v := .ref (ad 5)) rfl dX0_choose_46 ?_
      refine j_iload C 49 0 dX0_choose_49 rfl ?_
      refine j_callV (mc := 0) (ms := 0) C 51 (c_X2_add (jl κ) D ad ro c Z L 1 l.length hRS.2.2.2.1 hl (by decide)) gX0_choose_X2_add rfl rfl rfl hd_X2_add (by rw [hR]; exact ⟨Nat.le_of_ble_eq_true rfl, Nat.le_of_ble_eq_true rfl⟩) (ci := 2) rfl 5 (wd_o5 ad ro c Z L) rfl (Nat.le_of_ble_eq_true rfl) ⟨Nat.zero_le _, Nat.zero_le _⟩ dX0_choose_51 (fun x51 q51 => ?_)
      refine j_aload_n C 54 2 dX0_choose_54 rfl rfl ?_
      refine j_iload C 55 0 dX0_choose_55 rfl ?_
      refine j_if_ne_n C 57 71 (by decide) dX0_choose_57 (by decide) (fun _ => ?_) (fun h => absurd h (by decide))
      refine j_aload_n C 71 2 dX0_choose_71 rfl rfl ?_
      refine j_get C 72 (ci := 0) hL rfl 4 (wd_o4 ad ro c (upR Z 46 (fun _ => nI (l.length + 1))) (upR L 26 (vp_updL (L 26) (l.length / 64) x51))) 0 (by decide) f35 rfl (v := .ref (ad 1)) rfl dX0_choose_72 ?_
      refine j_iload_n C 75 3 dX0_choose_75 rfl rfl ?_
      refine j_callI (mc := 0) (ms := 0) C 76 (c_X4_right (jl κ) D ad ro c (upR Z 46 (fun _ => nI (l.length + 1))) (upR L 26 (vp_updL (L 26) (l.length / 64) x51)) (t) (by omega)) gX0_choose_X4_right rfl rfl rfl hd_X4_right (by rw [hR]; exact ⟨Nat.le_of_ble_eq_true rfl, Nat.le_of_ble_eq_true rfl⟩) (ci := 4) rfl 1 (wd_o1 ad ro c (upR Z 46 (fun _ => nI (l.length + 1))) (upR L 26 (vp_updL (L 26) (l.length / 64) x51))) rfl (Nat.le_of_ble_eq_true rfl) ⟨Nat.zero_le _, Nat.zero_le _⟩ dX0_choose_76 (fun r76 _ e76 => ?_)
      refine j_eqi (y := nI (g_rt τ (t))) (e76.trans (g_E_rt hE htn (by omega))) ?_
      refine j_callV (mc := 0) (ms := 0) C 79 (c_X0_await (jl κ) D ad ro c (upR Z 46 (fun _ => nI (l.length + 1))) (upR L 26 (vp_updL (L 26) (l.length / 64) x51)) (nI (g_rt τ (t))) (σ.length) (hRS.1) (by omega)) gX0_choose_X0_await rfl rfl rfl hd_X0_await (by rw [hR]; exact ⟨Nat.le_of_ble_eq_true rfl, Nat.le_of_ble_eq_true rfl⟩) (ci := 0) rfl 4 (wd_o4 ad ro c (upR Z 46 (fun _ => nI (l.length + 1))) (upR L 26 (vp_updL (L 26) (l.length / 64) x51))) rfl (Nat.le_of_ble_eq_true rfl) ⟨Nat.zero_le _, Nat.zero_le _⟩ dX0_choose_79 (fun _ _ => ?_)
      refine j_iconst C 82 (v := nI 1) dX0_choose_82 rfl ?_
      exact j_ireti C hr E (Nat.le_refl _) (Nat.le_refl _) (by decide) ((upR (upR (upR Z 46 (fun _ => nI (l.length + 1))) 23 (upd (Z 23) (σ.length) (nI (g_rt τ (t))))) 43 (fun _ => nI (σ.length + 1))), (upR L 26 (vp_updL (L 26) (l.length / 64) x51))) ⟨g_vi_4 (σ' := g_rt τ t :: σ) (by rw [g_st4 hk4, if_neg (by omega), if_neg (by omega)]) hk4 (by rw [hc]; exact g_RS_add hRS 1 (by decide) (g_rt τ t) q51), g_fr_up (g_fr_up (g_fr_up g_fr_rfl (by decide) _) (by decide) _) (by decide) _, g_fl_up g_fl_rfl (by decide) _⟩ rfl dX0_choose_83
    · refine j_eqi (y := -1) (by rw [hc]; rfl) ?_
      refine j_istore C 35 (lv' := [(4, .int (-1)), (3, .int (nI (2 ^ g_nx w p))), (0, .ref (ad 4)), (1, .int (nI (t))), (2, .ref (ad 3))]) dX0_choose_35 (by rw [hn]; decide) rfl ?_
      refine j_iload C 37 0 dX0_choose_37 rfl ?_
      refine j_iconst C 39 (v := -1) dX0_choose_39 rfl ?_
      refine j_icmp_ne C 40 45 dX0_choose_40 (by decide) (fun h => absurd rfl h) (fun _ => ?_)
      refine j_iconst C 43 (v := nI 0) dX0_choose_43 rfl ?_
      exact j_ireti C hr E (Nat.le_refl _) (Nat.le_refl _) (by decide) (Z, L) ⟨g_vi_2 (by rw [g_st4 hk4, if_pos hc]) hRS.2.2.1, g_fr_rfl, g_fl_rfl⟩ rfl dX0_choose_44
theorem g_vi_rl {τ : Tb} {root : Nat} {S : TS} {x t : Nat} {σ : List Nat} {p : Nat} {l : List Nat} {r : Int32} {Z' : ZT} {L' : LT} (hk : g_kd τ t = 2) (h1 : x = g_sg τ t → r = nI 1 ∧ g_RS Z' L' σ (p + 1) l) (h2 : x ≠ g_sg τ t → r = nI 0 ∧ Z' 44 0 = nI p) : g_vi τ root S x t σ p l r Z' L' := by
  by_cases e : x = g_sg τ t
  · rw [(h1 e).1]
    exact g_vi_1 (by rw [g_st2 hk, if_pos e.symm]) (h1 e).2
  · rw [(h2 e).1]
    exact g_vi_2 (by rw [g_st2 hk, if_neg (fun z => e z.symm)]) (h2 e).2
theorem zr_rl {P : Prop} [Decidable P] {r : Int32} {A B : Prop} (h1 : P → r = nI 1 ∧ A) (h2 : ¬ P → r = nI 0 ∧ B) : narrow .boolean (.int r) = .int r := by
  by_cases e : P
  · rw [(h1 e).1]; decide
  · rw [(h2 e).1]; decide
theorem zr_e {r : Int32} {b : Bool} (h : r = b2 b) : narrow .boolean (.int r) = .int r := by rw [h]; exact zr_b b
set_option maxHeartbeats 4000000 in
set_option maxRecDepth 100000 in
theorem c_X0_visit (ll : Launch) (D : va_G) (ad ro : Nat → Nat) (c : Nat → ClassId) (Z : ZT) (L : LT) {n : Nat} {τ : Tb} {root : Nat} {w σ l : List Nat} {p : Nat} (t : Nat) (hwf : g_WF n τ) (hr2 : root < n) (hE : g_ED n τ Z) (hwd : g_WD w (Z 42 0) (Z 22)) (hRS : g_RS Z L σ p l) (hp : p ≤ w.length) (hST : g_ST τ root Z) (hT : g_TY τ root (g_T τ root)) (ht : t ∈ g_P τ root) (hσ : σ.length + 1 < 945) (hl : l.length < 16384) : cI (S := ZT × LT) ll yX0_visit vsX0_visit ({ frames := 3, cells := 0, slots := 0, locals := 69 } : Room) D (tysG c) [.ref (ad 4), .int (nI (t)), .ref (ad 3)] (wd ad ro c Z L) (fun u => wd ad ro c u.1 u.2) (fun r u => g_vi τ root (g_T τ root) (g_nx w p) t σ p l r u.1 u.2 ∧ g_fr [23, 43, 44, 46] Z u.1 ∧ g_fl [26] L u.2) 0 0 := by
  refine cI_start (cc := cX0_visit) (maxL := 3) RX0 rfl (by decide +kernel) rfl (Nat.le_of_ble_eq_true rfl) ?_
  intro κ hlκ C hr _ E hR hn
  subst hlκ
  have hL : ∀ w ∈ u_ws RX0 TX0 8, w.before (ja κ) (js κ) = true := fun w h => C.t w (mX0_visit_wsX00 w h)
  have f35 : (Cond.fieldLink RX0 35 "GuardedGrammar$Reader" (TX0 0).2.1 (TX0 0).2.2.1).before (ja κ) (js κ) = true := C.t (.fieldLink RX0 35 "GuardedGrammar$Reader" "terms" "LGuardedGrammar$Terms;") (mX0_visit_o _ (by decide +kernel))
  have f39 : (Cond.fieldLink RX0 39 "GuardedGrammar$Reader" (TX0 1).2.1 (TX0 1).2.2.1).before (ja κ) (js κ) = true := C.t (.fieldLink RX0 39 "GuardedGrammar$Reader" "typing" "LGuardedGrammar$Typing;") (mX0_visit_o _ (by decide +kernel))
  show J D κ 0 0 0 [(0, .ref (ad 4)), (1, .int (nI (t))), (2, .ref (ad 3))] [] (wd ad ro c Z L)
  have ht48 := hwf.1
  have htn := g_P_lt hwf hr2 ht
  have hk6 : g_kd τ t ≤ 6 := (hwf.2 t htn).1
  have hk : g_kd τ t = 0 ∨ g_kd τ t = 1 ∨ g_kd τ t = 2 ∨ g_kd τ t = 3 ∨ g_kd τ t = 4 ∨ g_kd τ t = 5 ∨ g_kd τ t = 6 := by omega
  refine j_aload_n C 0 0 dX0_visit_0 rfl rfl ?_
  refine j_get C 1 (ci := 0) hL rfl 4 (wd_o4 ad ro c Z L) 0 (by decide) f35 rfl (v := .ref (ad 1)) rfl dX0_visit_1 ?_
  refine j_iload_n C 4 1 dX0_visit_4 rfl rfl ?_
  refine j_callI (mc := 0) (ms := 0) C 5 (c_X4_kind (jl κ) D ad ro c Z L (t) (by omega)) gX0_visit_X4_kind rfl rfl rfl hd_X4_kind (by rw [hR]; exact ⟨Nat.le_of_ble_eq_true rfl, Nat.le_of_ble_eq_true rfl⟩) (ci := 4) rfl 1 (wd_o1 ad ro c Z L) rfl (Nat.le_of_ble_eq_true rfl) ⟨Nat.zero_le _, Nat.zero_le _⟩ dX0_visit_5 (fun r5 _ e5 => ?_)
  refine j_eqi (y := nI (g_kd τ (t))) (e5.trans (hE _ htn).1) ?_
  rcases hk with hk | hk | hk | hk | hk | hk | hk
  · refine j_eqi (show nI (g_kd τ t) = nI 0 by rw [hk]) ?_
    refine j_tin_n C 8 (a := 0) (off := 44) 52 (by decide) dX0_visit_8 (by decide) (by decide) (by decide) (by decide) ?_
    refine j_iconst C 52 (v := nI 1) dX0_visit_52 rfl ?_
    exact j_ireti C hr E (Nat.le_refl _) (Nat.le_refl _) (by decide) (Z, L) ⟨g_vi_0 (g_st0 hk) (by omega) hRS, g_fr_rfl, g_fl_rfl⟩ rfl dX0_visit_53
  · refine j_eqi (show nI (g_kd τ t) = nI 1 by rw [hk]) ?_
    refine j_tin_n C 8 (a := 1) (off := 121) 129 (by decide) dX0_visit_8 (by decide) (by decide) (by decide) (by decide) ?_
    refine j_iconst C 129 (v := nI 0) dX0_visit_129 rfl ?_
    exact j_ireti C hr E (Nat.le_refl _) (Nat.le_refl _) (by decide) (Z, L) ⟨g_vi_2 (g_st1 hk) hRS.2.2.1, g_fr_rfl, g_fl_rfl⟩ rfl dX0_visit_130
  · refine j_eqi (show nI (g_kd τ t) = nI 2 by rw [hk]) ?_
    refine j_tin_n C 8 (a := 2) (off := 46) 54 (by decide) dX0_visit_8 (by decide) (by decide) (by decide) (by decide) ?_
    refine j_aload_n C 54 0 dX0_visit_54 rfl rfl ?_
    refine j_aload_n C 55 0 dX0_visit_55 rfl rfl ?_
    refine j_get C 56 (ci := 0) hL rfl 4 (wd_o4 ad ro c Z L) 0 (by decide) f35 rfl (v := .ref (ad 1)) rfl dX0_visit_56 ?_
    refine j_iload_n C 59 1 dX0_visit_59 rfl rfl ?_
    refine j_callI (mc := 0) (ms := 0) C 60 (c_X4_value (jl κ) D ad ro c Z L (t) (by omega)) gX0_visit_X4_value rfl rfl rfl hd_X4_value (by rw [hR]; exact ⟨Nat.le_of_ble_eq_true rfl, Nat.le_of_ble_eq_true rfl⟩) (ci := 4) rfl 1 (wd_o1 ad ro c Z L) rfl (Nat.le_of_ble_eq_true rfl) ⟨Nat.zero_le _, Nat.zero_le _⟩ dX0_visit_60 (fun r60 _ e60 => ?_)
    refine j_eqi (y := nI (g_sg τ (t))) (e60.trans ((hE _ htn).2.1 (by omega))) ?_
    refine j_aload_n C 63 2 dX0_visit_63 rfl rfl ?_
    refine j_callI (mc := 0) (ms := 0) C 64 (c_X0_readLetter (jl κ) D ad ro c Z L (g_sg τ t) hwd hRS hp ((hwf.2 t htn).2.1 hk)) gX0_visit_X0_readLetter rfl rfl rfl hd_X0_readLetter (by rw [hR]; exact ⟨Nat.le_of_ble_eq_true rfl, Nat.le_of_ble_eq_true rfl⟩) (ci := 0) rfl 4 (wd_o4 ad ro c Z L) rfl (Nat.le_of_ble_eq_true rfl) ⟨Nat.zero_le _, Nat.zero_le _⟩ dX0_visit_64 (fun r64 u64 q64 => ?_)
    have hwd64 : g_WD w (u64.1 42 0) (u64.1 22) := g_WD_fr (q64.2.2.1) (by decide) hwd
    have hE64 : g_ED n τ u64.1 := g_ED_fr (q64.2.2.1) (by decide) hE
    exact j_ireti C hr E (Nat.le_refl _) (Nat.le_refl _) (zr_rl q64.1 q64.2.1) (u64.1, u64.2) ⟨g_vi_rl hk q64.1 q64.2.1, q64.2.2⟩ rfl dX0_visit_67
  · refine j_eqi (show nI (g_kd τ t) = nI 3 by rw [hk]) ?_
    refine j_tin_n C 8 (a := 3) (off := 60) 68 (by decide) dX0_visit_8 (by decide) (by decide) (by decide) (by decide) ?_
    refine j_aload_n C 68 0 dX0_visit_68 rfl rfl ?_
    refine j_aload_n C 69 0 dX0_visit_69 rfl rfl ?_
    refine j_get C 70 (ci := 0) hL rfl 4 (wd_o4 ad ro c Z L) 0 (by decide) f35 rfl (v := .ref (ad 1)) rfl dX0_visit_70 ?_
    refine j_iload_n C 73 1 dX0_visit_73 rfl rfl ?_
    refine j_callI (mc := 0) (ms := 0) C 74 (c_X4_right (jl κ) D ad ro c Z L (t) (by omega)) gX0_visit_X4_right rfl rfl rfl hd_X4_right (by rw [hR]; exact ⟨Nat.le_of_ble_eq_true rfl, Nat.le_of_ble_eq_true rfl⟩) (ci := 4) rfl 1 (wd_o1 ad ro c Z L) rfl (Nat.le_of_ble_eq_true rfl) ⟨Nat.zero_le _, Nat.zero_le _⟩ dX0_visit_74 (fun r74 _ e74 => ?_)
    refine j_eqi (y := nI (g_rt τ (t))) (e74.trans (g_E_rt hE htn (by omega))) ?_
    refine j_callV (mc := 0) (ms := 0) C 77 (c_X0_await (jl κ) D ad ro c Z L (nI (g_rt τ (t))) (σ.length) (hRS.1) (by omega)) gX0_visit_X0_await rfl rfl rfl hd_X0_await (by rw [hR]; exact ⟨Nat.le_of_ble_eq_true rfl, Nat.le_of_ble_eq_true rfl⟩) (ci := 0) rfl 4 (wd_o4 ad ro c Z L) rfl (Nat.le_of_ble_eq_true rfl) ⟨Nat.zero_le _, Nat.zero_le _⟩ dX0_visit_77 (fun _ _ => ?_)
    refine j_aload_n C 80 0 dX0_visit_80 rfl rfl ?_
    refine j_aload_n C 81 0 dX0_visit_81 rfl rfl ?_
    refine j_get C 82 (ci := 0) hL rfl 4 (wd_o4 ad ro c (upR (upR Z 23 (upd (Z 23) (σ.length) (nI (g_rt τ (t))))) 43 (fun _ => nI (σ.length + 1))) L) 0 (by decide) f35 rfl (v := .ref (ad 1)) rfl dX0_visit_82 ?_
    refine j_iload_n C 85 1 dX0_visit_85 rfl rfl ?_
    refine j_callI (mc := 0) (ms := 0) C 86 (c_X4_left (jl κ) D ad ro c (upR (upR Z 23 (upd (Z 23) (σ.length) (nI (g_rt τ (t))))) 43 (fun _ => nI (σ.length + 1))) L (t) (by omega)) gX0_visit_X4_left rfl rfl rfl hd_X4_left (by rw [hR]; exact ⟨Nat.le_of_ble_eq_true rfl, Nat.le_of_ble_eq_true rfl⟩) (ci := 4) rfl 1 (wd_o1 ad ro c (upR (upR Z 23 (upd (Z 23) (σ.length) (nI (g_rt τ (t))))) 43 (fun _ => nI (σ.length + 1))) L) rfl (Nat.le_of_ble_eq_true rfl) ⟨Nat.zero_le _, Nat.zero_le _⟩ dX0_visit_86 (fun r86 _ e86 => ?_)
    refine j_eqi (y := nI (g_lf τ (t))) (e86.trans (g_E_lf hE htn (by omega))) ?_
    refine j_callV (mc := 0) (ms := 0) C 89 (c_X0_await (jl κ) D ad ro c (upR (upR Z 23 (upd (Z 23) (σ.length) (nI (g_rt τ (t))))) 43 (fun _ => nI (σ.length + 1))) L (nI (g_lf τ (t))) (σ.length + 1) (rfl) (by omega)) gX0_visit_X0_await rfl rfl rfl hd_X0_await (by rw [hR]; exact ⟨Nat.le_of_ble_eq_true rfl, Nat.le_of_ble_eq_true rfl⟩) (ci := 0) rfl 4 (wd_o4 ad ro c (upR (upR Z 23 (upd (Z 23) (σ.length) (nI (g_rt τ (t))))) 43 (fun _ => nI (σ.length + 1))) L) rfl (Nat.le_of_ble_eq_true rfl) ⟨Nat.zero_le _, Nat.zero_le _⟩ dX0_visit_89 (fun _ _ => ?_)
    refine j_iconst C 92 (v := nI 1) dX0_visit_92 rfl ?_
    exact j_ireti C hr E (Nat.le_refl _) (Nat.le_refl _) (by decide) ((upR (upR (upR (upR Z 23 (upd (Z 23) (σ.length) (nI (g_rt τ (t))))) 43 (fun _ => nI (σ.length + 1))) 23 (upd (upd (Z 23) (σ.length) (nI (g_rt τ (t)))) (σ.length + 1) (nI (g_lf τ (t))))) 43 (fun _ => nI (σ.length + 1 + 1))), L) ⟨g_vi_0 (g_st3 hk) (by omega) (g_RS_push (g_RS_push hRS (g_rt τ t)) (g_lf τ t)), (g_fr_up (g_fr_up (g_fr_up (g_fr_up g_fr_rfl (by decide) _) (by decide) _) (by decide) _) (by decide) _), g_fl_rfl⟩ rfl dX0_visit_93
  · refine j_eqi (show nI (g_kd τ t) = nI 4 by rw [hk]) ?_
    refine j_tin_n C 8 (a := 4) (off := 86) 94 (by decide) dX0_visit_8 (by decide) (by decide) (by decide) (by decide) ?_
    refine j_aload_n C 94 0 dX0_visit_94 rfl rfl ?_
    refine j_iload_n C 95 1 dX0_visit_95 rfl rfl ?_
    refine j_aload_n C 96 2 dX0_visit_96 rfl rfl ?_
    refine j_callI (mc := 0) (ms := 0) C 97 (c_X0_choose (jl κ) D ad ro c Z L t hwf hr2 hE hwd hRS hp hST ht hk (by omega) hl) gX0_visit_X0_choose rfl rfl rfl hd_X0_choose (by rw [hR]; exact ⟨Nat.le_of_ble_eq_true rfl, Nat.le_of_ble_eq_true rfl⟩) (ci := 0) rfl 4 (wd_o4 ad ro c Z L) rfl (Nat.le_of_ble_eq_true rfl) ⟨Nat.zero_le _, Nat.zero_le _⟩ dX0_visit_97 (fun r97 u97 q97 => ?_)
    have hwd97 : g_WD w (u97.1 42 0) (u97.1 22) := g_WD_fr (q97.2.1) (by decide) hwd
    have hE97 : g_ED n τ u97.1 := g_ED_fr (q97.2.1) (by decide) hE
    exact j_ireti C hr E (Nat.le_refl _) (Nat.le_refl _) (zr_e q97.1.1) (u97.1, u97.2) q97 rfl dX0_visit_100
  · refine j_eqi (show nI (g_kd τ t) = nI 5 by rw [hk]) ?_
    obtain ⟨k5, hb5, -⟩ := (hT.2.2 t ht).1 hk
    refine j_tin_n C 8 (a := 5) (off := 93) 101 (by decide) dX0_visit_8 (by decide) (by decide) (by decide) (by decide) ?_
    refine j_aload_n C 101 0 dX0_visit_101 rfl rfl ?_
    refine j_aload_n C 102 0 dX0_visit_102 rfl rfl ?_
    refine j_get C 103 (ci := 0) hL rfl 4 (wd_o4 ad ro c Z L) 1 (by decide) f39 rfl (v := .ref (ad 2)) rfl dX0_visit_103 ?_
    refine j_iload_n C 106 1 dX0_visit_106 rfl rfl ?_
    refine j_callI (mc := 0) (ms := 0) C 107 (c_X5_binder (jl κ) D ad ro c Z L (t) (by omega)) gX0_visit_X5_binder rfl rfl rfl hd_X5_binder (by rw [hR]; exact ⟨Nat.le_of_ble_eq_true rfl, Nat.le_of_ble_eq_true rfl⟩) (ci := 5) rfl 2 (wd_o2 ad ro c Z L) rfl (Nat.le_of_ble_eq_true rfl) ⟨Nat.zero_le _, Nat.zero_le _⟩ dX0_visit_107 (fun r107 _ e107 => ?_)
    refine j_eqi (y := nI (k5)) (e107.trans ((hST.2.1 t ht hk).1 k5 hb5).1) ?_
    refine j_callV (mc := 0) (ms := 0) C 110 (c_X0_await (jl κ) D ad ro c Z L (nI (k5)) (σ.length) (hRS.1) (by omega)) gX0_visit_X0_await rfl rfl rfl hd_X0_await (by rw [hR]; exact ⟨Nat.le_of_ble_eq_true rfl, Nat.le_of_ble_eq_true rfl⟩) (ci := 0) rfl 4 (wd_o4 ad ro c Z L) rfl (Nat.le_of_ble_eq_true rfl) ⟨Nat.zero_le _, Nat.zero_le _⟩ dX0_visit_110 (fun _ _ => ?_)
    refine j_iconst C 113 (v := nI 1) dX0_visit_113 rfl ?_
    exact j_ireti C hr E (Nat.le_refl _) (Nat.le_refl _) (by decide) ((upR (upR Z 23 (upd (Z 23) (σ.length) (nI (k5)))) 43 (fun _ => nI (σ.length + 1))), L) ⟨g_vi_0 (g_st5 hk) (by omega) (by rw [hb5]; exact g_RS_push hRS k5), (g_fr_up (g_fr_up g_fr_rfl (by decide) _) (by decide) _), g_fl_rfl⟩ rfl dX0_visit_114
  · refine j_eqi (show nI (g_kd τ t) = nI 6 by rw [hk]) ?_
    refine j_tin_n C 8 (a := 6) (off := 107) 115 (by decide) dX0_visit_8 (by decide) (by decide) (by decide) (by decide) ?_
    refine j_aload_n C 115 0 dX0_visit_115 rfl rfl ?_
    refine j_aload_n C 116 0 dX0_visit_116 rfl rfl ?_
    refine j_get C 117 (ci := 0) hL rfl 4 (wd_o4 ad ro c Z L) 0 (by decide) f35 rfl (v := .ref (ad 1)) rfl dX0_visit_117 ?_
    refine j_iload_n C 120 1 dX0_visit_120 rfl rfl ?_
    refine j_callI (mc := 0) (ms := 0) C 121 (c_X4_left (jl κ) D ad ro c Z L (t) (by omega)) gX0_visit_X4_left rfl rfl rfl hd_X4_left (by rw [hR]; exact ⟨Nat.le_of_ble_eq_true rfl, Nat.le_of_ble_eq_true rfl⟩) (ci := 4) rfl 1 (wd_o1 ad ro c Z L) rfl (Nat.le_of_ble_eq_true rfl) ⟨Nat.zero_le _, Nat.zero_le _⟩ dX0_visit_121 (fun r121 _ e121 => ?_)
    refine j_eqi (y := nI (g_lf τ (t))) (e121.trans (g_E_lf hE htn (by omega))) ?_
    refine j_callV (mc := 0) (ms := 0) C 124 (c_X0_await (jl κ) D ad ro c Z L (nI (g_lf τ (t))) (σ.length) (hRS.1) (by omega)) gX0_visit_X0_await rfl rfl rfl hd_X0_await (by rw [hR]; exact ⟨Nat.le_of_ble_eq_true rfl, Nat.le_of_ble_eq_true rfl⟩) (ci := 0) rfl 4 (wd_o4 ad ro c Z L) rfl (Nat.le_of_ble_eq_true rfl) ⟨Nat.zero_le _, Nat.zero_le _⟩ dX0_visit_124 (fun _ _ => ?_)
    refine j_iconst C 127 (v := nI 1) dX0_visit_127 rfl ?_
    exact j_ireti C hr E (Nat.le_refl _) (Nat.le_refl _) (by decide) ((upR (upR Z 23 (upd (Z 23) (σ.length) (nI (g_lf τ (t))))) 43 (fun _ => nI (σ.length + 1))), L) ⟨g_vi_0 (g_st6 hk) (by omega) (g_RS_push hRS (g_lf τ t)), (g_fr_up (g_fr_up g_fr_rfl (by decide) _) (by decide) _), g_fl_rfl⟩ rfl dX0_visit_128
