/-! contracts: the reference, counting -/
def vM (L : LT) : Nat → Nat → Int64 := fun t j => if j < 17 then L 17 (17 * t + j) else lN 0
theorem vM_at {L : LT} {t j : Nat} (h : j < 17) : L 17 (17 * t + j) = vM L t j := (if_pos h).symm
theorem vM_at2 {L : LT} {t k i : Nat} (h : k < 17) (hi : i ≤ k) : L 17 (17 * t + k - i) = vM L t (k - i) := by rw [← vM_at (by omega), show 17 * t + k - i = 17 * t + (k - i) by omega]
theorem vM_same (L : LT) {t k : Nat} (hk : k < 17) (x : Int64) : vM (upR L 17 (vp_updL (L 17) (17 * t + k) x)) t k = x := by
  rw [← vM_at hk]
  exact if_pos rfl
theorem vM_ne {L : LT} {t k u j : Nat} (hk : k < 17) {x : Int64} (h : u ≠ t ∨ j ≠ k) : vM (upR L 17 (vp_updL (L 17) (17 * t + k) x)) u j = vM L u j := by
  unfold vM
  by_cases hj : j < 17
  · rw [if_pos hj, if_pos hj]
    exact if_neg (by omega)
  · rw [if_neg hj, if_neg hj]
theorem g_CN_upM {τ : Tb} {root k t : Nat} {L : LT} {x : Int64} (hk : k < 17) (h : g_CN τ root k (vM L)) : g_CN τ root k (vM (upR L 17 (vp_updL (L 17) (17 * t + k) x))) := fun u hu j hj => by
  rw [vM_ne hk (Or.inr (by omega))]
  exact h u hu j hj
theorem g_PS_same {τ : Tb} {root : Nat} {m : Bool} {k p : Nat} {done done' : Nat → Prop} {ch ch' : Bool} {v v' : Nat → Nat → Int64} (h : g_PS τ root m k p done ch v) (hv : v' = v) (hc : ch' = ch) (hd : ∀ t, t ∈ g_P τ root → done' t → done t) : g_PS τ root m k p done' ch' v' := by
  subst hv
  subst hc
  obtain ⟨p1, p2, p3, p4, p5⟩ := h
  exact ⟨p1, p2, fun t ht z => p3 t ht (hd t ht z), fun c t ht z => p4 c t ht (hd t ht z), p5⟩
theorem vM_id {L : LT} {t k : Nat} {x : Int64} (hk : k < 17) (h : x = vM L t k) : vM (upR L 17 (vp_updL (L 17) (17 * t + k) x)) = vM L := by
  funext u j
  by_cases e : u = t ∧ j = k
  · rw [e.1, e.2, vM_same L hk, h]
  · exact vM_ne hk (by omega)
set_option maxHeartbeats 4000000 in
set_option maxRecDepth 100000 in
theorem c_X8_countAt (ll : Launch) (D : va_G) (bd : Nat → Nat) (c : Nat → ClassId) (Z : ZT) (L : LT) {n : Nat} {τ : Tb} {root : Nat} (t k : Nat) (hwf : g_WF n τ) (hr2 : root < n) (hE : g_EM n τ Z) (ht : t ∈ g_P τ root) (hk5 : g_kd τ t ≠ 5) (hk16 : k ≤ 16) : cL (S := Unit) ll yX8_countAt vsX8_countAt ({ frames := 0, cells := 0, slots := 0, locals := 0 } : Room) D (tysG c) [.ref (bd 0), .int (nI (t)), .int (nI (k))] (wm bd c Z L) (fun _ => wm bd c Z L) (fun r _ => r = g_w64 τ root true (vM L) t k) 0 0 := by
  refine cL_start (cc := cX8_countAt) (maxL := 8) RX8 rfl (by decide +kernel) rfl (Nat.le_of_ble_eq_true rfl) ?_
  intro κ hlκ C hr _ E hR hn
  subst hlκ
  have hL : ∀ w ∈ u_ws RX8 TX8 28, w.before (ja κ) (js κ) = true := fun w h => C.t w (mX8_countAt_wsX80 w h)
  have f16 : (Cond.fieldLink RX8 16 "GuardedGrammarModel" (TX8 4).2.1 (TX8 4).2.2.1).before (ja κ) (js κ) = true := C.t (.fieldLink RX8 16 "GuardedGrammarModel" "one" "[I") (mX8_countAt_o _ (by decide +kernel))
  have f19 : (Cond.fieldLink RX8 19 "GuardedGrammarModel" (TX8 5).2.1 (TX8 5).2.2.1).before (ja κ) (js κ) = true := C.t (.fieldLink RX8 19 "GuardedGrammarModel" "two" "[I") (mX8_countAt_o _ (by decide +kernel))
  have f7 : (Cond.fieldLink RX8 7 "GuardedGrammarModel" (TX8 2).2.1 (TX8 2).2.2.1).before (ja κ) (js κ) = true := C.t (.fieldLink RX8 7 "GuardedGrammarModel" "kind" "[I") (mX8_countAt_o _ (by decide +kernel))
  have f63 : (Cond.fieldLink RX8 63 "GuardedGrammarModel" (TX8 25).2.1 (TX8 25).2.2.1).before (ja κ) (js κ) = true := C.t (.fieldLink RX8 63 "GuardedGrammarModel" "counts" "[J") (mX8_countAt_o _ (by decide +kernel))
  show J D κ 0 0 0 [(0, .ref (bd 0)), (1, .int (nI (t))), (2, .int (nI (k)))] [] (wm bd c Z L)
  have ht48 := hwf.1
  have htn := g_P_lt hwf hr2 ht
  have hk6 : g_kd τ t ≤ 6 := (hwf.2 t htn).1
  have hk : g_kd τ t = 0 ∨ g_kd τ t = 1 ∨ g_kd τ t = 2 ∨ g_kd τ t = 3 ∨ g_kd τ t = 4 ∨ g_kd τ t = 5 ∨ g_kd τ t = 6 := by omega
  rcases hk with hk | hk | hk | hk | hk | hk | hk
  · refine j_bipush C 0 (v := nI 17) dX8_countAt_0 rfl ?_
    refine j_aload_n C 2 0 dX8_countAt_2 rfl rfl ?_
    refine j_get C 3 (ci := 8) hL rfl 0 (wm_o0 bd c Z L) 4 (by decide) f16 rfl (v := .ref (bd 3)) rfl dX8_countAt_3 ?_
    refine j_iload_n C 6 1 dX8_countAt_6 rfl rfl ?_
    refine j_iald C 7 3 0 (f := Z 3) (wm_a3 bd c Z L) rfl (by omega) (by decide) dX8_countAt_7 ?_
    refine j_imul C 8 dX8_countAt_8 ?_
    refine j_istore_n C 9 (lv' := [(3, .int (nI (17) * ((Z 3) (t)))), (0, .ref (bd 0)), (1, .int (nI (t))), (2, .int (nI (k)))]) dX8_countAt_9 rfl (by rw [hn]; decide) rfl ?_
    refine j_bipush C 10 (v := nI 17) dX8_countAt_10 rfl ?_
    refine j_aload_n C 12 1 dX8_countAt_12 rfl rfl ?_
    refine j_get C 13 (ci := 8) hL rfl 0 (wm_o0 bd c Z L) 5 (by decide) f19 rfl (v := .ref (bd 4)) rfl dX8_countAt_13 ?_
    refine j_iload_n C 16 2 dX8_countAt_16 rfl rfl ?_
    refine j_iald C 17 4 0 (f := Z 4) (wm_a4 bd c Z L) rfl (by omega) (by decide) dX8_countAt_17 ?_
    refine j_imul C 18 dX8_countAt_18 ?_
    refine j_istore C 19 (lv' := [(4, .int (nI (17) * ((Z 4) (t)))), (3, .int (nI (17) * ((Z 3) (t)))), (0, .ref (bd 0)), (1, .int (nI (t))), (2, .int (nI (k)))]) dX8_countAt_19 (by rw [hn]; decide) rfl ?_
    refine j_lconst C 21 (v := lN 0) dX8_countAt_21 rfl ?_
    refine j_lstore C 22 (lv' := [(5, .long (lN 0)), (4, .int (nI (17) * ((Z 4) (t)))), (3, .int (nI (17) * ((Z 3) (t)))), (0, .ref (bd 0)), (1, .int (nI (t))), (2, .int (nI (k)))]) dX8_countAt_22 (by rw [hn]; decide) rfl ?_
    refine j_aload_n C 24 3 dX8_countAt_24 rfl rfl ?_
    refine j_get C 25 (ci := 8) hL rfl 0 (wm_o0 bd c Z L) 2 (by decide) f7 rfl (v := .ref (bd 1)) rfl dX8_countAt_25 ?_
    refine j_iload_n C 28 4 dX8_countAt_28 rfl rfl ?_
    refine j_iald C 29 1 0 (f := Z 1) (wm_a1 bd c Z L) rfl (by omega) (by decide) dX8_countAt_29 ?_
    refine j_eqi (hE t htn).1 ?_
    refine j_eqi (show nI (g_kd τ t) = nI 0 by rw [hk]) ?_
    refine j_tin_n C 30 (a := 0) (off := 42) 72 (by decide) dX8_countAt_30 (by decide) (by decide) (by decide) (by decide) ?_
    refine j_iload_n C 72 5 dX8_countAt_72 rfl rfl ?_
    refine j_if_ne_n C 73 80 (by omega) dX8_countAt_73 (by decide) (fun h73 => ?_) (fun h73 => ?_)
    · refine j_lconst C 80 (v := lN 0) dX8_countAt_80 rfl ?_
      exact j_lreti C hr E (Nat.le_refl _) (Nat.le_refl _) () (by rw [g_w0 hk, if_neg h73]) rfl dX8_countAt_81
    · refine j_lconst C 76 (v := lN 1) dX8_countAt_76 rfl ?_
      refine j_goto C 77 81 dX8_countAt_77 (by decide) ?_
      exact j_lreti C hr E (Nat.le_refl _) (Nat.le_refl _) () (by rw [g_w0 hk, if_pos h73]) rfl dX8_countAt_81
  · refine j_bipush C 0 (v := nI 17) dX8_countAt_0 rfl ?_
    refine j_aload_n C 2 0 dX8_countAt_2 rfl rfl ?_
    refine j_get C 3 (ci := 8) hL rfl 0 (wm_o0 bd c Z L) 4 (by decide) f16 rfl (v := .ref (bd 3)) rfl dX8_countAt_3 ?_
    refine j_iload_n C 6 1 dX8_countAt_6 rfl rfl ?_
    refine j_iald C 7 3 0 (f := Z 3) (wm_a3 bd c Z L) rfl (by omega) (by decide) dX8_countAt_7 ?_
    refine j_imul C 8 dX8_countAt_8 ?_
    refine j_istore_n C 9 (lv' := [(3, .int (nI (17) * ((Z 3) (t)))), (0, .ref (bd 0)), (1, .int (nI (t))), (2, .int (nI (k)))]) dX8_countAt_9 rfl (by rw [hn]; decide) rfl ?_
    refine j_bipush C 10 (v := nI 17) dX8_countAt_10 rfl ?_
    refine j_aload_n C 12 1 dX8_countAt_12 rfl rfl ?_
    refine j_get C 13 (ci := 8) hL rfl 0 (wm_o0 bd c Z L) 5 (by decide) f19 rfl (v := .ref (bd 4)) rfl dX8_countAt_13 ?_
    refine j_iload_n C 16 2 dX8_countAt_16 rfl rfl ?_
    refine j_iald C 17 4 0 (f := Z 4) (wm_a4 bd c Z L) rfl (by omega) (by decide) dX8_countAt_17 ?_
    refine j_imul C 18 dX8_countAt_18 ?_
    refine j_istore C 19 (lv' := [(4, .int (nI (17) * ((Z 4) (t)))), (3, .int (nI (17) * ((Z 3) (t)))), (0, .ref (bd 0)), (1, .int (nI (t))), (2, .int (nI (k)))]) dX8_countAt_19 (by rw [hn]; decide) rfl ?_
    refine j_lconst C 21 (v := lN 0) dX8_countAt_21 rfl ?_
    refine j_lstore C 22 (lv' := [(5, .long (lN 0)), (4, .int (nI (17) * ((Z 4) (t)))), (3, .int (nI (17) * ((Z 3) (t)))), (0, .ref (bd 0)), (1, .int (nI (t))), (2, .int (nI (k)))]) dX8_countAt_22 (by rw [hn]; decide) rfl ?_
    refine j_aload_n C 24 3 dX8_countAt_24 rfl rfl ?_
    refine j_get C 25 (ci := 8) hL rfl 0 (wm_o0 bd c Z L) 2 (by decide) f7 rfl (v := .ref (bd 1)) rfl dX8_countAt_25 ?_
    refine j_iload_n C 28 4 dX8_countAt_28 rfl rfl ?_
    refine j_iald C 29 1 0 (f := Z 1) (wm_a1 bd c Z L) rfl (by omega) (by decide) dX8_countAt_29 ?_
    refine j_eqi (hE t htn).1 ?_
    refine j_eqi (show nI (g_kd τ t) = nI 1 by rw [hk]) ?_
    refine j_tin_n C 30 (a := 1) (off := 136) 166 (by decide) dX8_countAt_30 (by decide) (by decide) (by decide) (by decide) ?_
    refine j_lconst C 166 (v := lN 0) dX8_countAt_166 rfl ?_
    exact j_lreti C hr E (Nat.le_refl _) (Nat.le_refl _) () (g_w1 hk).symm rfl dX8_countAt_167
  · refine j_bipush C 0 (v := nI 17) dX8_countAt_0 rfl ?_
    refine j_aload_n C 2 0 dX8_countAt_2 rfl rfl ?_
    refine j_get C 3 (ci := 8) hL rfl 0 (wm_o0 bd c Z L) 4 (by decide) f16 rfl (v := .ref (bd 3)) rfl dX8_countAt_3 ?_
    refine j_iload_n C 6 1 dX8_countAt_6 rfl rfl ?_
    refine j_iald C 7 3 0 (f := Z 3) (wm_a3 bd c Z L) rfl (by omega) (by decide) dX8_countAt_7 ?_
    refine j_imul C 8 dX8_countAt_8 ?_
    refine j_istore_n C 9 (lv' := [(3, .int (nI (17) * ((Z 3) (t)))), (0, .ref (bd 0)), (1, .int (nI (t))), (2, .int (nI (k)))]) dX8_countAt_9 rfl (by rw [hn]; decide) rfl ?_
    refine j_bipush C 10 (v := nI 17) dX8_countAt_10 rfl ?_
    refine j_aload_n C 12 1 dX8_countAt_12 rfl rfl ?_
    refine j_get C 13 (ci := 8) hL rfl 0 (wm_o0 bd c Z L) 5 (by decide) f19 rfl (v := .ref (bd 4)) rfl dX8_countAt_13 ?_
    refine j_iload_n C 16 2 dX8_countAt_16 rfl rfl ?_
    refine j_iald C 17 4 0 (f := Z 4) (wm_a4 bd c Z L) rfl (by omega) (by decide) dX8_countAt_17 ?_
    refine j_imul C 18 dX8_countAt_18 ?_
    refine j_istore C 19 (lv' := [(4, .int (nI (17) * ((Z 4) (t)))), (3, .int (nI (17) * ((Z 3) (t)))), (0, .ref (bd 0)), (1, .int (nI (t))), (2, .int (nI (k)))]) dX8_countAt_19 (by rw [hn]; decide) rfl ?_
    refine j_lconst C 21 (v := lN 0) dX8_countAt_21 rfl ?_
    refine j_lstore C 22 (lv' := [(5, .long (lN 0)), (4, .int (nI (17) * ((Z 4) (t)))), (3, .int (nI (17) * ((Z 3) (t)))), (0, .ref (bd 0)), (1, .int (nI (t))), (2, .int (nI (k)))]) dX8_countAt_22 (by rw [hn]; decide) rfl ?_
    refine j_aload_n C 24 3 dX8_countAt_24 rfl rfl ?_
    refine j_get C 25 (ci := 8) hL rfl 0 (wm_o0 bd c Z L) 2 (by decide) f7 rfl (v := .ref (bd 1)) rfl dX8_countAt_25 ?_
    refine j_iload_n C 28 4 dX8_countAt_28 rfl rfl ?_
    refine j_iald C 29 1 0 (f := Z 1) (wm_a1 bd c Z L) rfl (by omega) (by decide) dX8_countAt_29 ?_
    refine j_eqi (hE t htn).1 ?_
    refine j_eqi (show nI (g_kd τ t) = nI 2 by rw [hk]) ?_
    refine j_tin_n C 30 (a := 2) (off := 52) 82 (by decide) dX8_countAt_30 (by decide) (by decide) (by decide) (by decide) ?_
    refine j_iload_n C 82 5 dX8_countAt_82 rfl rfl ?_
    refine j_iconst C 83 (v := nI 1) dX8_countAt_83 rfl ?_
    refine j_icmp_ne_n C 84 91 (by omega) (by omega) dX8_countAt_84 (by decide) (fun h84 => ?_) (fun h84 => ?_)
    · refine j_lconst C 91 (v := lN 0) dX8_countAt_91 rfl ?_
      exact j_lreti C hr E (Nat.le_refl _) (Nat.le_refl _) () (by rw [g_w2 hk, if_neg h84]) rfl dX8_countAt_92
    · refine j_lconst C 87 (v := lN 1) dX8_countAt_87 rfl ?_
      refine j_goto C 88 92 dX8_countAt_88 (by decide) ?_
      exact j_lreti C hr E (Nat.le_refl _) (Nat.le_refl _) () (by rw [g_w2 hk, if_pos h84]) rfl dX8_countAt_92
  · have hlP := g_lfP hwf hr2 ht (by omega)
    have hrP := g_rtP hwf hr2 ht (by omega)
    refine j_bipush C 0 (v := nI 17) dX8_countAt_0 rfl ?_
    refine j_aload_n C 2 0 dX8_countAt_2 rfl rfl ?_
    refine j_get C 3 (ci := 8) hL rfl 0 (wm_o0 bd c Z L) 4 (by decide) f16 rfl (v := .ref (bd 3)) rfl dX8_countAt_3 ?_
    refine j_iload_n C 6 1 dX8_countAt_6 rfl rfl ?_
    refine j_iald C 7 3 0 (f := Z 3) (wm_a3 bd c Z L) rfl (by omega) (by decide) dX8_countAt_7 ?_
    refine j_eqi (g_EM_lf hE htn (by omega)) ?_
    refine j_imul_e C 8 dX8_countAt_8 (pk_mul _ _) ?_
    refine j_istore_n C 9 (lv' := [(3, .int (nI ((17) * (g_lf τ t)))), (0, .ref (bd 0)), (1, .int (nI (t))), (2, .int (nI (k)))]) dX8_countAt_9 rfl (by rw [hn]; decide) rfl ?_
    refine j_bipush C 10 (v := nI 17) dX8_countAt_10 rfl ?_
    refine j_aload_n C 12 1 dX8_countAt_12 rfl rfl ?_
    refine j_get C 13 (ci := 8) hL rfl 0 (wm_o0 bd c Z L) 5 (by decide) f19 rfl (v := .ref (bd 4)) rfl dX8_countAt_13 ?_
    refine j_iload_n C 16 2 dX8_countAt_16 rfl rfl ?_
    refine j_iald C 17 4 0 (f := Z 4) (wm_a4 bd c Z L) rfl (by omega) (by decide) dX8_countAt_17 ?_
    refine j_eqi (g_EM_rt hE htn (by omega)) ?_
    refine j_imul_e C 18 dX8_countAt_18 (pk_mul _ _) ?_
    refine j_istore C 19 (lv' := [(4, .int (nI ((17) * (g_rt τ t)))), (3, .int (nI ((17) * (g_lf τ t)))), (0, .ref (bd 0)), (1, .int (nI (t))), (2, .int (nI (k)))]) dX8_countAt_19 (by rw [hn]; decide) rfl ?_
    refine j_lconst C 21 (v := lN 0) dX8_countAt_21 rfl ?_
    refine j_lstore C 22 (lv' := [(5, .long (lN 0)), (4, .int (nI ((17) * (g_rt τ t)))), (3, .int (nI ((17) * (g_lf τ t)))), (0, .ref (bd 0)), (1, .int (nI (t))), (2, .int (nI (k)))]) dX8_countAt_22 (by rw [hn]; decide) rfl ?_
    refine j_aload_n C 24 3 dX8_countAt_24 rfl rfl ?_
    refine j_get C 25 (ci := 8) hL rfl 0 (wm_o0 bd c Z L) 2 (by decide) f7 rfl (v := .ref (bd 1)) rfl dX8_countAt_25 ?_
    refine j_iload_n C 28 4 dX8_countAt_28 rfl rfl ?_
    refine j_iald C 29 1 0 (f := Z 1) (wm_a1 bd c Z L) rfl (by omega) (by decide) dX8_countAt_29 ?_
    refine j_eqi (hE t htn).1 ?_
    refine j_eqi (show nI (g_kd τ t) = nI 3 by rw [hk]) ?_
    refine j_tin_n C 30 (a := 3) (off := 91) 121 (by decide) dX8_countAt_30 (by decide) (by decide) (by decide) (by decide) ?_
    refine j_iconst C 121 (v := nI 1) dX8_countAt_121 rfl ?_
    refine j_istore C 122 (lv' := [(7, .int (nI (1))), (5, .long (lN 0)), (4, .int (nI ((17) * (g_rt τ t)))), (3, .int (nI ((17) * (g_lf τ t)))), (0, .ref (bd 0)), (1, .int (nI (t))), (2, .int (nI (k)))]) dX8_countAt_122 (by rw [hn]; decide) rfl ?_
    have loop : ∀ m j, m + j = k → ∀ lv, lv_pick lv [0, 1, 2, 3, 4, 5, 6] = [(7, .int (nI (j + 1))), (5, .long (s64 (fun i => vM L (g_lf τ t) (i + 1) * vM L (g_rt τ t) (k - (i + 1))) j)), (4, .int (nI ((17) * (g_rt τ t)))), (3, .int (nI ((17) * (g_lf τ t)))), (0, .ref (bd 0)), (1, .int (nI t)), (2, .int (nI k))] → J D κ 0 0 124 lv [] (wm bd c Z L) := by
      intro m
      induction m with
      | zero =>
        intro j hm lv hlv
        obtain rfl : j = k := by omega
        refine j_lv [0, 1, 2, 3, 4, 5, 6] hlv ?_
        refine j_iload C 124 0 dX8_countAt_124 rfl ?_
        refine j_iload_n C 126 6 dX8_countAt_126 rfl rfl ?_
        refine j_icmp_gt_n C 127 163 (by omega) (by omega) dX8_countAt_127 (by decide) (fun _ => ?_) (fun h => absurd h (by omega))
        refine j_lload C 163 1 dX8_countAt_163 rfl ?_
        exact j_lreti C hr E (Nat.le_refl _) (Nat.le_refl _) () (g_w3 (root := root) (m := true) (v := vM L) (n := j) hk).symm rfl dX8_countAt_165
      | succ m ih =>
        intro j hm lv hlv
        refine j_lv [0, 1, 2, 3, 4, 5, 6] hlv ?_
        refine j_iload C 124 0 dX8_countAt_124 rfl ?_
        refine j_iload_n C 126 6 dX8_countAt_126 rfl rfl ?_
        refine j_icmp_gt_n C 127 163 (by omega) (by omega) dX8_countAt_127 (by decide) (fun h => absurd h (by omega)) (fun _ => ?_)
        refine j_lload C 130 1 dX8_countAt_130 rfl ?_
        refine j_aload_n C 132 4 dX8_countAt_132 rfl rfl ?_
        refine j_get C 133 (ci := 8) hL rfl 0 (wm_o0 bd c Z L) 25 (by decide) f63 rfl (v := .ref (bd 17)) rfl dX8_countAt_133 ?_
        refine j_iload_n C 136 3 dX8_countAt_136 rfl rfl ?_
        refine j_iload C 137 0 dX8_countAt_137 rfl ?_
        refine j_iadd_e C 139 dX8_countAt_139 (nI_add _ _) ?_
        refine j_lald C 140 17 2 (f := L 17) (wm_a17 bd c Z L) rfl (by omega) (by decide) dX8_countAt_140 ?_
        refine j_eql (vM_at (by omega)) ?_
        refine j_aload_n C 141 4 dX8_countAt_141 rfl rfl ?_
        refine j_get C 142 (ci := 8) hL rfl 0 (wm_o0 bd c Z L) 25 (by decide) f63 rfl (v := .ref (bd 17)) rfl dX8_countAt_142 ?_
        refine j_iload C 145 2 dX8_countAt_145 rfl ?_
        refine j_iload_n C 147 6 dX8_countAt_147 rfl rfl ?_
        refine j_iadd_e C 148 dX8_countAt_148 (nI_add _ _) ?_
        refine j_iload C 149 0 dX8_countAt_149 rfl ?_
        refine j_isub_e C 151 dX8_countAt_151 (pk_sub (by omega)) ?_
        refine j_lald C 152 17 2 (f := L 17) (wm_a17 bd c Z L) rfl (by omega) (by decide) dX8_countAt_152 ?_
        refine j_eql (vM_at2 (by omega) (by omega)) ?_
        refine j_lmul C 153 dX8_countAt_153 ?_
        refine j_ladd C 154 dX8_countAt_154 ?_
        refine j_lstore C 155 (lv' := [(5, .long ((s64 (fun i => vM L (g_lf τ t) (i + 1) * vM L (g_rt τ t) (k - (i + 1))) j) + ((vM L (g_lf τ t) (j + 1)) * (vM L (g_rt τ t) (k - (j + 1)))))), (7, .int (nI (j + 1))), (4, .int (nI ((17) * (g_rt τ t)))), (3, .int (nI ((17) * (g_lf τ t)))), (0, .ref (bd 0)), (1, .int (nI (t))), (2, .int (nI (k)))]) dX8_countAt_155 (by rw [hn]; decide) rfl ?_
        refine j_iinc C 157 1 (v := (nI (j + 1 + 1))) (lv' := [(7, .int (nI (j + 1 + 1))), (5, .long ((s64 (fun i => vM L (g_lf τ t) (i + 1) * vM L (g_rt τ t) (k - (i + 1))) j) + ((vM L (g_lf τ t) (j + 1)) * (vM L (g_rt τ t) (k - (j + 1)))))), (4, .int (nI ((17) * (g_rt τ t)))), (3, .int (nI ((17) * (g_lf τ t)))), (0, .ref (bd 0)), (1, .int (nI (t))), (2, .int (nI (k)))]) dX8_countAt_157 rfl (nI_add (j + 1) 1) (by rw [hn]; decide) rfl ?_
        refine j_goto C 160 124 dX8_countAt_160 (by decide) ?_
        exact j_lv [0, 1, 2, 3, 4, 5, 6] rfl (ih (j + 1) (by omega) _ rfl)
    exact j_lv [0, 1, 2, 3, 4, 5, 6] rfl (loop k 0 (by omega) _ rfl)
  · have hlP := g_lfP hwf hr2 ht (by omega)
    have hrP := g_rtP hwf hr2 ht (by omega)
    refine j_bipush C 0 (v := nI 17) dX8_countAt_0 rfl ?_
    refine j_aload_n C 2 0 dX8_countAt_2 rfl rfl ?_
    refine j_get C 3 (ci := 8) hL rfl 0 (wm_o0 bd c Z L) 4 (by decide) f16 rfl (v := .ref (bd 3)) rfl dX8_countAt_3 ?_
    refine j_iload_n C 6 1 dX8_countAt_6 rfl rfl ?_
    refine j_iald C 7 3 0 (f := Z 3) (wm_a3 bd c Z L) rfl (by omega) (by decide) dX8_countAt_7 ?_
    refine j_eqi (g_EM_lf hE htn (by omega)) ?_
    refine j_imul_e C 8 dX8_countAt_8 (pk_mul _ _) ?_
    refine j_istore_n C 9 (lv' := [(3, .int (nI ((17) * (g_lf τ t)))), (0, .ref (bd 0)), (1, .int (nI (t))), (2, .int (nI (k)))]) dX8_countAt_9 rfl (by rw [hn]; decide) rfl ?_
    refine j_bipush C 10 (v := nI 17) dX8_countAt_10 rfl ?_
    refine j_aload_n C 12 1 dX8_countAt_12 rfl rfl ?_
    refine j_get C 13 (ci := 8) hL rfl 0 (wm_o0 bd c Z L) 5 (by decide) f19 rfl (v := .ref (bd 4)) rfl dX8_countAt_13 ?_
    refine j_iload_n C 16 2 dX8_countAt_16 rfl rfl ?_
    refine j_iald C 17 4 0 (f := Z 4) (wm_a4 bd c Z L) rfl (by omega) (by decide) dX8_countAt_17 ?_
    refine j_eqi (g_EM_rt hE htn (by omega)) ?_
    refine j_imul_e C 18 dX8_countAt_18 (pk_mul _ _) ?_
    refine j_istore C 19 (lv' := [(4, .int (nI ((17) * (g_rt τ t)))), (3, .int (nI ((17) * (g_lf τ t)))), (0, .ref (bd 0)), (1, .int (nI (t))), (2, .int (nI (k)))]) dX8_countAt_19 (by rw [hn]; decide) rfl ?_
    refine j_lconst C 21 (v := lN 0) dX8_countAt_21 rfl ?_
    refine j_lstore C 22 (lv' := [(5, .long (lN 0)), (4, .int (nI ((17) * (g_rt τ t)))), (3, .int (nI ((17) * (g_lf τ t)))), (0, .ref (bd 0)), (1, .int (nI (t))), (2, .int (nI (k)))]) dX8_countAt_22 (by rw [hn]; decide) rfl ?_
    refine j_aload_n C 24 3 dX8_countAt_24 rfl rfl ?_
    refine j_get C 25 (ci := 8) hL rfl 0 (wm_o0 bd c Z L) 2 (by decide) f7 rfl (v := .ref (bd 1)) rfl dX8_countAt_25 ?_
    refine j_iload_n C 28 4 dX8_countAt_28 rfl rfl ?_
    refine j_iald C 29 1 0 (f := Z 1) (wm_a1 bd c Z L) rfl (by omega) (by decide) dX8_countAt_29 ?_
    refine j_eqi (hE t htn).1 ?_
    refine j_eqi (show nI (g_kd τ t) = nI 4 by rw [hk]) ?_
    refine j_tin_n C 30 (a := 4) (off := 63) 93 (by decide) dX8_countAt_30 (by decide) (by decide) (by decide) (by decide) ?_
    refine j_aload_n C 93 3 dX8_countAt_93 rfl rfl ?_
    refine j_get C 94 (ci := 8) hL rfl 0 (wm_o0 bd c Z L) 25 (by decide) f63 rfl (v := .ref (bd 17)) rfl dX8_countAt_94 ?_
    refine j_iload_n C 97 2 dX8_countAt_97 rfl rfl ?_
    refine j_iload_n C 98 5 dX8_countAt_98 rfl rfl ?_
    refine j_iadd_e C 99 dX8_countAt_99 (nI_add _ _) ?_
    refine j_lald C 100 17 2 (f := L 17) (wm_a17 bd c Z L) rfl (by omega) (by decide) dX8_countAt_100 ?_
    refine j_eql (vM_at (by omega)) ?_
    refine j_aload_n C 101 3 dX8_countAt_101 rfl rfl ?_
    refine j_get C 102 (ci := 8) hL rfl 0 (wm_o0 bd c Z L) 25 (by decide) f63 rfl (v := .ref (bd 17)) rfl dX8_countAt_102 ?_
    refine j_iload C 105 1 dX8_countAt_105 rfl ?_
    refine j_iload_n C 107 5 dX8_countAt_107 rfl rfl ?_
    refine j_iadd_e C 108 dX8_countAt_108 (nI_add _ _) ?_
    refine j_lald C 109 17 2 (f := L 17) (wm_a17 bd c Z L) rfl (by omega) (by decide) dX8_countAt_109 ?_
    refine j_eql (vM_at (by omega)) ?_
    refine j_ladd C 110 dX8_countAt_110 ?_
    exact j_lreti C hr E (Nat.le_refl _) (Nat.le_refl _) () (g_w4 (root := root) (m := true) (v := vM L) (n := k) hk).symm rfl dX8_countAt_111
  · exact absurd hk hk5
  · have hlP := g_lfP hwf hr2 ht (by omega)
    refine j_bipush C 0 (v := nI 17) dX8_countAt_0 rfl ?_
    refine j_aload_n C 2 0 dX8_countAt_2 rfl rfl ?_
    refine j_get C 3 (ci := 8) hL rfl 0 (wm_o0 bd c Z L) 4 (by decide) f16 rfl (v := .ref (bd 3)) rfl dX8_countAt_3 ?_
    refine j_iload_n C 6 1 dX8_countAt_6 rfl rfl ?_
    refine j_iald C 7 3 0 (f := Z 3) (wm_a3 bd c Z L) rfl (by omega) (by decide) dX8_countAt_7 ?_
    refine j_eqi (g_EM_lf hE htn (by omega)) ?_
    refine j_imul_e C 8 dX8_countAt_8 (pk_mul _ _) ?_
    refine j_istore_n C 9 (lv' := [(3, .int (nI ((17) * (g_lf τ t)))), (0, .ref (bd 0)), (1, .int (nI (t))), (2, .int (nI (k)))]) dX8_countAt_9 rfl (by rw [hn]; decide) rfl ?_
    refine j_bipush C 10 (v := nI 17) dX8_countAt_10 rfl ?_
    refine j_aload_n C 12 1 dX8_countAt_12 rfl rfl ?_
    refine j_get C 13 (ci := 8) hL rfl 0 (wm_o0 bd c Z L) 5 (by decide) f19 rfl (v := .ref (bd 4)) rfl dX8_countAt_13 ?_
    refine j_iload_n C 16 2 dX8_countAt_16 rfl rfl ?_
    refine j_iald C 17 4 0 (f := Z 4) (wm_a4 bd c Z L) rfl (by omega) (by decide) dX8_countAt_17 ?_
    refine j_imul C 18 dX8_countAt_18 ?_
    refine j_istore C 19 (lv' := [(4, .int (nI (17) * ((Z 4) (t)))), (3, .int (nI ((17) * (g_lf τ t)))), (0, .ref (bd 0)), (1, .int (nI (t))), (2, .int (nI (k)))]) dX8_countAt_19 (by rw [hn]; decide) rfl ?_
    refine j_lconst C 21 (v := lN 0) dX8_countAt_21 rfl ?_
    refine j_lstore C 22 (lv' := [(5, .long (lN 0)), (4, .int (nI (17) * ((Z 4) (t)))), (3, .int (nI ((17) * (g_lf τ t)))), (0, .ref (bd 0)), (1, .int (nI (t))), (2, .int (nI (k)))]) dX8_countAt_22 (by rw [hn]; decide) rfl ?_
    refine j_aload_n C 24 3 dX8_countAt_24 rfl rfl ?_
    refine j_get C 25 (ci := 8) hL rfl 0 (wm_o0 bd c Z L) 2 (by decide) f7 rfl (v := .ref (bd 1)) rfl dX8_countAt_25 ?_
    refine j_iload_n C 28 4 dX8_countAt_28 rfl rfl ?_
    refine j_iald C 29 1 0 (f := Z 1) (wm_a1 bd c Z L) rfl (by omega) (by decide) dX8_countAt_29 ?_
    refine j_eqi (hE t htn).1 ?_
    refine j_eqi (show nI (g_kd τ t) = nI 6 by rw [hk]) ?_
    refine j_tin_n C 30 (a := 6) (off := 82) 112 (by decide) dX8_countAt_30 (by decide) (by decide) (by decide) (by decide) ?_
    refine j_aload_n C 112 3 dX8_countAt_112 rfl rfl ?_
    refine j_get C 113 (ci := 8) hL rfl 0 (wm_o0 bd c Z L) 25 (by decide) f63 rfl (v := .ref (bd 17)) rfl dX8_countAt_113 ?_
    refine j_iload_n C 116 2 dX8_countAt_116 rfl rfl ?_
    refine j_iload_n C 117 5 dX8_countAt_117 rfl rfl ?_
    refine j_iadd_e C 118 dX8_countAt_118 (nI_add _ _) ?_
    refine j_lald C 119 17 2 (f := L 17) (wm_a17 bd c Z L) rfl (by omega) (by decide) dX8_countAt_119 ?_
    refine j_eql (vM_at (by omega)) ?_
    exact j_lreti C hr E (Nat.le_refl _) (Nat.le_refl _) () (g_w6 (root := root) (m := true) (v := vM L) (n := k) hk).symm rfl dX8_countAt_120
set_option maxHeartbeats 4000000 in
set_option maxRecDepth 100000 in
theorem c_X8_countAll (ll : Launch) (D : va_G) (bd : Nat → Nat) (c : Nat → ClassId) (Z : ZT) (L : LT) {n : Nat} {τ : Tb} {root : Nat} (K : Nat) (hwf : g_WF n τ) (hr2 : root < n) (hE : g_EM n τ Z) (hz : Z 41 0 = nI n) (hB : g_BM τ root Z) (hI : g_IM n τ root Z) (hT : g_TY τ root (g_T τ root)) (hK : K ≤ 16) : cV (S := LT) ll yX8_countAll vsX8_countAll ({ frames := 1, cells := 0, slots := 0, locals := 27 } : Room) D (tysG c) [.ref (bd 0), .int (nI (K))] (wm bd c Z L) (fun L' => wm bd c Z L') (fun L' => g_CN τ root (K + 1) (vM L')) 0 0 := by
  refine cV_start (cc := cX8_countAll) (maxL := 7) RX8 rfl (by decide +kernel) rfl (Nat.le_of_ble_eq_true rfl) ?_
  intro κ hlκ C hr _ E hR hn
  subst hlκ
  have hL : ∀ w ∈ u_ws RX8 TX8 28, w.before (ja κ) (js κ) = true := fun w h => C.t w (mX8_countAll_wsX80 w h)
  have f76 : (Cond.fieldLink RX8 76 "GuardedGrammarModel" (TX8 1).2.1 (TX8 1).2.2.1).before (ja κ) (js κ) = true := C.t (.fieldLink RX8 76 "GuardedGrammarModel" "terms" "I") (mX8_countAll_o _ (by decide +kernel))
  have f63 : (Cond.fieldLink RX8 63 "GuardedGrammarModel" (TX8 25).2.1 (TX8 25).2.2.1).before (ja κ) (js κ) = true := C.t (.fieldLink RX8 63 "GuardedGrammarModel" "counts" "[J") (mX8_countAll_o _ (by decide +kernel))
  have f38 : (Cond.fieldLink RX8 38 "GuardedGrammarModel" (TX8 11).2.1 (TX8 11).2.2.1).before (ja κ) (js κ) = true := C.t (.fieldLink RX8 38 "GuardedGrammarModel" "inside" "[Z") (mX8_countAll_o _ (by decide +kernel))
  have f7 : (Cond.fieldLink RX8 7 "GuardedGrammarModel" (TX8 2).2.1 (TX8 2).2.2.1).before (ja κ) (js κ) = true := C.t (.fieldLink RX8 7 "GuardedGrammarModel" "kind" "[I") (mX8_countAll_o _ (by decide +kernel))
  have f41 : (Cond.fieldLink RX8 41 "GuardedGrammarModel" (TX8 12).2.1 (TX8 12).2.2.1).before (ja κ) (js κ) = true := C.t (.fieldLink RX8 41 "GuardedGrammarModel" "binder" "[I") (mX8_countAll_o _ (by decide +kernel))
  show J D κ 0 0 0 [(0, .ref (bd 0)), (1, .int (nI (K)))] [] (wm bd c Z L)
  have h48n := hwf.1
  have outer : ∀ m k (L1 : LT), m + k = K + 1 → g_CN τ root k (vM L1) → ∀ lv, lv_pick lv [0, 1, 2] = [(2, .int (nI k)), (0, .ref (bd 0)), (1, .int (nI K))] → J D κ 0 0 2 lv [] (wm bd c Z L1) := by
    intro m
    induction m with
    | zero =>
      intro k L1 hm hCN lv hlv
      obtain rfl : k = K + 1 := by omega
      refine j_lv [0, 1, 2] hlv ?_
      refine j_iload_n C 2 0 dX8_countAll_2 rfl rfl ?_
      refine j_iload_n C 3 2 dX8_countAll_3 rfl rfl ?_
      refine j_icmp_gt_n C 4 166 (by omega) (by omega) dX8_countAll_4 (by decide) (fun _ => ?_) (fun h => absurd h (by omega))
      exact j_vreti C hr E (Nat.le_refl _) (Nat.le_refl _) L1 hCN rfl dX8_countAll_166
    | succ m ihO =>
      intro k L1 hm hCN lv hlv
      have hkK : k ≤ K := by omega
      have hk17 : k < 17 := by omega
      refine j_lv [0, 1, 2] hlv ?_
      -- the passes
      have passes : ∀ m p (ch : Bool) (L2 : LT), m + p = 49 → (ch = true → p ≤ 48) → g_CN τ root k (vM L2) → g_Ip τ root k p (vM L2) → (ch = false → g_CN τ root (k + 1) (vM L2)) → (∀ t, t < n → t ∉ g_P τ root → vM L2 t k = lN 0) → ∀ lv, lv_pick lv [0, 1, 2, 3] = [(3, .int (b2 ch)), (2, .int (nI k)), (0, .ref (bd 0)), (1, .int (nI K))] → J D κ 0 0 37 lv [] (wm bd c Z L2) := by
        intro m
        induction m with
        | zero =>
          intro p ch L2 hm2 hp hC hIp hch hZO lv hlv
          refine j_lv [0, 1, 2, 3] hlv ?_
          cases ch with
          | true => have := hp rfl; omega
          | false =>
            refine j_iload_n C 37 0 dX8_countAll_37 rfl rfl ?_
            refine j_if_eq_b C 38 (b := false) 160 dX8_countAll_38 (by decide) (fun _ => ?_) (fun h => by cases h)
            refine j_iinc C 160 1 (v := (nI (k + 1))) (lv' := [(2, .int (nI (k + 1))), (3, .int (b2 (false))), (0, .ref (bd 0)), (1, .int (nI (K)))]) dX8_countAll_160 rfl (nI_add (k) 1) (by rw [hn]; decide) rfl ?_
            refine j_goto C 163 2 dX8_countAll_163 (by decide) ?_
            exact j_lv [0, 2, 3] rfl (ihO (k + 1) L2 (by omega) (hch rfl) _ rfl)
        | succ m ihP =>
          intro p ch L2 hm2 hp hC hIp hch hZO lv hlv
          refine j_lv [0, 1, 2, 3] hlv ?_
          cases ch with
          | false =>
            refine j_iload_n C 37 0 dX8_countAll_37 rfl rfl ?_
            refine j_if_eq_b C 38 (b := false) 160 dX8_countAll_38 (by decide) (fun _ => ?_) (fun h => by cases h)
            refine j_iinc C 160 1 (v := (nI (k + 1))) (lv' := [(2, .int (nI (k + 1))), (3, .int (b2 (false))), (0, .ref (bd 0)), (1, .int (nI (K)))]) dX8_countAll_160 rfl (nI_add (k) 1) (by rw [hn]; decide) rfl ?_
            refine j_goto C 163 2 dX8_countAll_163 (by decide) ?_
            exact j_lv [0, 2, 3] rfl (ihO (k + 1) L2 (by omega) (hch rfl) _ rfl)
          | true =>
            have hp48 := hp rfl
            -- one pass
            have one : ∀ q i (ch : Bool) (L3 : LT), q + i = n → g_PS τ root true k p (fun t => t < i) ch (vM L3) → (∀ t, t < n → t ∉ g_P τ root → vM L3 t k = lN 0) → ∀ lv, lv_pick lv [0, 1, 2, 3, 4] = [(4, .int (nI i)), (3, .int (b2 ch)), (2, .int (nI k)), (0, .ref (bd 0)), (1, .int (nI K))] → J D κ 0 0 46 lv [] (wm bd c Z L3) := by
              intro q
              induction q with
              | zero =>
                intro i ch L3 hq hPS hZ3 lv hlv
                obtain rfl : i = n := by omega
                obtain ⟨e1, e2, e3, e4⟩ := g_PS_end hwf hr2 hT hPS (fun t ht => g_P_lt hwf hr2 ht)
                refine j_lv [0, 1, 2, 3, 4] hlv ?_
                refine j_iload C 46 0 dX8_countAll_46 rfl ?_
                refine j_aload_n C 48 3 dX8_countAll_48 rfl rfl ?_
                refine j_get C 49 (ci := 8) hL rfl 0 (wm_o0 bd c Z L3) 1 (by decide) f76 rfl (v := .int (Z 41 0)) rfl dX8_countAll_49 ?_
                refine j_eqi hz ?_
                refine j_icmp_ge_n C 52 157 (by omega) (by omega) dX8_countAll_52 (by decide) (fun _ => ?_) (fun h => absurd h (by omega))
                refine j_goto C 157 37 dX8_countAll_157 (by decide) ?_
                exact j_lv [1, 2, 3, 4] rfl (ihP (p + 1) ch L3 (by omega) (fun z => e4 z) e1 e2 e3 hZ3 _ rfl)
              | succ q ihq =>
                intro i ch L3 hq hPS hZ3 lv hlv
                have hin : i < n := by omega
                refine j_lv [0, 1, 2, 3, 4] hlv ?_
                have j107 : ∀ x : Int64, (i ∈ g_P τ root → x = g_w64 τ root true (vM L3) i k) → (i ∉ g_P τ root → x = vM L3 i k) → ∀ lv, lv_pick lv [0, 1, 2, 3, 4] = [(4, .int (nI i)), (3, .int (b2 ch)), (2, .int (nI k)), (0, .ref (bd 0)), (1, .int (nI K))] → J D κ 0 0 107 lv [.long x] (wm bd c Z L3) := by
                  intro x hx1 hx2 lv hlv
                  refine j_lv [0, 1, 2, 3, 4] hlv ?_
                  have j136 : ∀ b : Bool, b = (ch || decide (x ≠ vM L3 i k)) → ∀ lv, lv_pick lv [0, 1, 2, 3, 4] = [(5, .long x), (4, .int (nI i)), (2, .int (nI k)), (0, .ref (bd 0)), (1, .int (nI K))] → J D κ 0 0 136 lv [.int (b2 b)] (wm bd c Z L3) := by
                    intro b hb lv hlv
                    refine j_lv [0, 1, 2, 3, 4] hlv ?_
                    refine j_istore_n C 136 (lv' := [(3, .int (b2 (b))), (5, .long (x)), (4, .int (nI (i))), (2, .int (nI (k))), (0, .ref (bd 0)), (1, .int (nI (K)))]) dX8_countAll_136 rfl (by rw [hn]; decide) rfl ?_
                    refine j_aload_n C 137 4 dX8_countAll_137 rfl rfl ?_
                    refine j_get C 138 (ci := 8) hL rfl 0 (wm_o0 bd c Z L3) 25 (by decide) f63 rfl (v := .ref (bd 17)) rfl dX8_countAll_138 ?_
                    refine j_bipush C 141 (v := nI 17) dX8_countAll_141 rfl ?_
                    refine j_iload C 143 2 dX8_countAll_143 rfl ?_
                    refine j_imul_e C 145 dX8_countAll_145 (pk_mul _ _) ?_
                    refine j_iload_n C 146 3 dX8_countAll_146 rfl rfl ?_
                    refine j_iadd_e C 147 dX8_countAll_147 (nI_add _ _) ?_
                    refine j_lload C 148 1 dX8_countAll_148 rfl ?_
                    refine j_last C 150 17 2 (f := L3 17) (wm_a17 bd c Z L3) rfl (by omega) (by decide) (wm_s17 bd c Z L3 (vp_updL (L3 17) ((17) * (i) + k) (x))) dX8_countAll_150 ?_
                    refine j_iinc C 151 2 (v := (nI (i + 1))) (lv' := [(4, .int (nI (i + 1))), (3, .int (b2 (b))), (5, .long (x)), (2, .int (nI (k))), (0, .ref (bd 0)), (1, .int (nI (K)))]) dX8_countAll_151 rfl (nI_add (i) 1) (by rw [hn]; decide) rfl ?_
                    refine j_goto C 154 46 dX8_countAll_154 (by decide) ?_
                    refine j_lv [0, 1, 3, 4, 5] rfl (ihq (i + 1) b _ (by omega) ?_ (fun t ht htn => ?_) _ rfl)
                    · by_cases hiP : i ∈ g_P τ root
                      · exact g_PS_step hwf hr2 hT hiP hPS ((vM_same L3 hk17 x).trans (hx1 hiP)) (fun t j h => vM_ne hk17 h) (by rw [← hx1 hiP]; exact hb) (fun t ht hd => by have : t < i + 1 := hd; show t < i ∨ t = i; omega)
                      · exact g_PS_same hPS (vM_id hk17 (hx2 hiP)) (by rw [hb, decide_eq_false (fun z => z (hx2 hiP)), Bool.or_false]) (fun t ht hd => by have : t < i + 1 := hd; have : t ≠ i := (fun e => hiP (by rw [← e]; exact ht)); show t < i; omega)
                    · by_cases e : t = i
                      · subst e; rw [vM_same L3 hk17, hx2 htn]; exact hZ3 t ht htn
                      · rw [vM_ne hk17 (Or.inl e)]; exact hZ3 t ht htn
                  refine j_lstore C 107 (lv' := [(5, .long (x)), (4, .int (nI (i))), (3, .int (b2 (ch))), (2, .int (nI (k))), (0, .ref (bd 0)), (1, .int (nI (K)))]) dX8_countAll_107 (by rw [hn]; decide) rfl ?_
                  refine j_iload_n C 109 2 dX8_countAll_109 rfl rfl ?_
                  refine j_if_ne_b C 110 131 dX8_countAll_110 (by decide) (fun h110 => ?_) (fun h110 => ?_)
                  · refine j_iconst C 131 (v := nI 1) dX8_countAll_131 rfl ?_
                    refine j_goto C 132 136 dX8_countAll_132 (by decide) ?_
                    exact j_lv [0, 1, 3, 4, 5] rfl (j136 true (by rw [h110]; rfl) _ rfl)
                  · refine j_lload C 113 0 dX8_countAll_113 rfl ?_
                    refine j_aload_n C 115 4 dX8_countAll_115 rfl rfl ?_
                    refine j_get C 116 (ci := 8) hL rfl 0 (wm_o0 bd c Z L3) 25 (by decide) f63 rfl (v := .ref (bd 17)) rfl dX8_countAll_116 ?_
                    refine j_bipush C 119 (v := nI 17) dX8_countAll_119 rfl ?_
                    refine j_iload C 121 1 dX8_countAll_121 rfl ?_
                    refine j_imul_e C 123 dX8_countAll_123 (pk_mul _ _) ?_
                    refine j_iload_n C 124 3 dX8_countAll_124 rfl rfl ?_
                    refine j_iadd_e C 125 dX8_countAll_125 (nI_add _ _) ?_
                    refine j_lald C 126 17 2 (f := L3 17) (wm_a17 bd c Z L3) rfl (by omega) (by decide) dX8_countAll_126 ?_
                    refine j_eql (vM_at (by omega)) ?_
                    refine j_lcmp C 127 dX8_countAll_127 ?_
                    refine j_if_eq C 128 135 dX8_countAll_128 (by decide) (fun h128 => ?_) (fun h128 => ?_)
                    · refine j_iconst C 135 (v := nI 0) dX8_countAll_135 rfl ?_
                      exact j_lv [0, 1, 3, 4, 5] rfl (j136 false (by rw [h110, Bool.false_or]; symm; rw [decide_eq_false_iff_not]; exact fun z => z (lg_cmp0.mp h128)) _ rfl)
                    · refine j_iconst C 131 (v := nI 1) dX8_countAll_131 rfl ?_
                      refine j_goto C 132 136 dX8_countAll_132 (by decide) ?_
                      exact j_lv [0, 1, 3, 4, 5] rfl (j136 true (by rw [h110, Bool.false_or]; symm; rw [decide_eq_true_iff]; exact fun z => h128 (lg_cmp0.mpr z)) _ rfl)
                by_cases hiP : i ∈ g_P τ root
                · have hki := (hwf.2 i hin).1
                  by_cases hk5 : g_kd τ i = 5
                  · obtain ⟨k5, hb5, -⟩ := (hT.2.2 i hiP).1 hk5
                    have hk5n := g_P_lt hwf hr2 (g_B_some hwf hr2 _ _ hiP (Nat.le_refl _) hb5).2.2.2.1
                    refine j_iload C 46 0 dX8_countAll_46 rfl ?_
                    refine j_aload_n C 48 3 dX8_countAll_48 rfl rfl ?_
                    refine j_get C 49 (ci := 8) hL rfl 0 (wm_o0 bd c Z L3) 1 (by decide) f76 rfl (v := .int (Z 41 0)) rfl dX8_countAll_49 ?_
                    refine j_eqi hz ?_
                    refine j_icmp_ge_n C 52 157 (by omega) (by omega) dX8_countAll_52 (by decide) (fun h => absurd h (by omega)) (fun _ => ?_)
                    refine j_aload_n C 55 3 dX8_countAll_55 rfl rfl ?_
                    refine j_get C 56 (ci := 8) hL rfl 0 (wm_o0 bd c Z L3) 11 (by decide) f38 rfl (v := .ref (bd 10)) rfl dX8_countAll_56 ?_
                    refine j_iload C 59 0 dX8_countAll_59 rfl ?_
                    refine j_zald C 61 10 1 (f := Z 10) (wm_a10 bd c Z L3) rfl (by omega) (by decide) dX8_countAll_61 ?_
                    refine j_eqi ((hI i hin).trans (by rw [decide_eq_true hiP])) ?_
                    refine j_if_ne_b C 62 (b := true) 69 dX8_countAll_62 (by decide) (fun _ => ?_) (fun h => by cases h)
                    refine j_aload_n C 69 3 dX8_countAll_69 rfl rfl ?_
                    refine j_get C 70 (ci := 8) hL rfl 0 (wm_o0 bd c Z L3) 2 (by decide) f7 rfl (v := .ref (bd 1)) rfl dX8_countAll_70 ?_
                    refine j_iload C 73 0 dX8_countAll_73 rfl ?_
                    refine j_iald C 75 1 0 (f := Z 1) (wm_a1 bd c Z L3) rfl (by omega) (by decide) dX8_countAll_75 ?_
                    refine j_eqi (hE i hin).1 ?_
                    refine j_iconst C 76 (v := nI 5) dX8_countAll_76 rfl ?_
                    refine j_icmp_ne_n C 77 100 (by omega) (by omega) dX8_countAll_77 (by decide) (fun h => absurd h (by omega)) (fun _ => ?_)
                    refine j_aload_n C 80 3 dX8_countAll_80 rfl rfl ?_
                    refine j_get C 81 (ci := 8) hL rfl 0 (wm_o0 bd c Z L3) 25 (by decide) f63 rfl (v := .ref (bd 17)) rfl dX8_countAll_81 ?_
                    refine j_bipush C 84 (v := nI 17) dX8_countAll_84 rfl ?_
                    refine j_aload_n C 86 3 dX8_countAll_86 rfl rfl ?_
                    refine j_get C 87 (ci := 8) hL rfl 0 (wm_o0 bd c Z L3) 12 (by decide) f41 rfl (v := .ref (bd 11)) rfl dX8_countAll_87 ?_
                    refine j_iload C 90 0 dX8_countAll_90 rfl ?_
                    refine j_iald C 92 11 0 (f := Z 11) (wm_a11 bd c Z L3) rfl (by omega) (by decide) dX8_countAll_92 ?_
                    refine j_eqi ((hB i hiP hk5).trans (by rw [hb5]; first | done | rfl)) ?_
                    refine j_imul_e C 93 dX8_countAll_93 (pk_mul _ _) ?_
                    refine j_iload_n C 94 2 dX8_countAll_94 rfl rfl ?_
                    refine j_iadd_e C 95 dX8_countAll_95 (nI_add _ _) ?_
                    refine j_lald C 96 17 2 (f := L3 17) (wm_a17 bd c Z L3) rfl (by omega) (by decide) dX8_countAll_96 ?_
                    refine j_eql (vM_at (by omega)) ?_
                    refine j_goto C 97 107 dX8_countAll_97 (by decide) ?_
                    exact j_lv [0, 1, 2, 3, 4] rfl (j107 _ (fun _ => by rw [g_w5 hk5, hb5]; rfl) (fun z => absurd hiP z) _ rfl)
                  · refine j_iload C 46 0 dX8_countAll_46 rfl ?_
                    refine j_aload_n C 48 3 dX8_countAll_48 rfl rfl ?_
                    refine j_get C 49 (ci := 8) hL rfl 0 (wm_o0 bd c Z L3) 1 (by decide) f76 rfl (v := .int (Z 41 0)) rfl dX8_countAll_49 ?_
                    refine j_eqi hz ?_
                    refine j_icmp_ge_n C 52 157 (by omega) (by omega) dX8_countAll_52 (by decide) (fun h => absurd h (by omega)) (fun _ => ?_)
                    refine j_aload_n C 55 3 dX8_countAll_55 rfl rfl ?_
                    refine j_get C 56 (ci := 8) hL rfl 0 (wm_o0 bd c Z L3) 11 (by decide) f38 rfl (v := .ref (bd 10)) rfl dX8_countAll_56 ?_
                    refine j_iload C 59 0 dX8_countAll_59 rfl ?_
                    refine j_zald C 61 10 1 (f := Z 10) (wm_a10 bd c Z L3) rfl (by omega) (by decide) dX8_countAll_61 ?_
                    refine j_eqi ((hI i hin).trans (by rw [decide_eq_true hiP])) ?_
                    refine j_if_ne_b C 62 (b := true) 69 dX8_countAll_62 (by decide) (fun _ => ?_) (fun h => by cases h)
                    refine j_aload_n C 69 3 dX8_countAll_69 rfl rfl ?_
                    refine j_get C 70 (ci := 8) hL rfl 0 (wm_o0 bd c Z L3) 2 (by decide) f7 rfl (v := .ref (bd 1)) rfl dX8_countAll_70 ?_
                    refine j_iload C 73 0 dX8_countAll_73 rfl ?_
                    refine j_iald C 75 1 0 (f := Z 1) (wm_a1 bd c Z L3) rfl (by omega) (by decide) dX8_countAll_75 ?_
                    refine j_eqi (hE i hin).1 ?_
                    refine j_iconst C 76 (v := nI 5) dX8_countAll_76 rfl ?_
                    refine j_icmp_ne_n C 77 100 (by omega) (by omega) dX8_countAll_77 (by decide) (fun _ => ?_) (fun h => absurd h (by omega))
                    refine j_aload_n C 100 3 dX8_countAll_100 rfl rfl ?_
                    refine j_iload C 101 0 dX8_countAll_101 rfl ?_
                    refine j_iload_n C 103 2 dX8_countAll_103 rfl rfl ?_
                    refine j_callL (mc := 0) (ms := 0) C 104 (c_X8_countAt (jl κ) D bd c Z L3 i k hwf hr2 hE hiP hk5 (by omega)) gX8_countAll_X8_countAt rfl rfl rfl hd_X8_countAt (by rw [hR]; exact ⟨Nat.le_of_ble_eq_true rfl, Nat.le_of_ble_eq_true rfl⟩) (ci := 8) rfl 0 (wm_o0 bd c Z L3) rfl (Nat.le_of_ble_eq_true rfl) ⟨Nat.zero_le _, Nat.zero_le _⟩ dX8_countAll_104 (fun r104 _ e104 => ?_)
                    subst e104
                    exact j_lv [0, 1, 2, 3, 4] rfl (j107 _ (fun _ => rfl) (fun z => absurd hiP z) _ rfl)
                · refine j_iload C 46 0 dX8_countAll_46 rfl ?_
                  refine j_aload_n C 48 3 dX8_countAll_48 rfl rfl ?_
                  refine j_get C 49 (ci := 8) hL rfl 0 (wm_o0 bd c Z L3) 1 (by decide) f76 rfl (v := .int (Z 41 0)) rfl dX8_countAll_49 ?_
                  refine j_eqi hz ?_
                  refine j_icmp_ge_n C 52 157 (by omega) (by omega) dX8_countAll_52 (by decide) (fun h => absurd h (by omega)) (fun _ => ?_)
                  refine j_aload_n C 55 3 dX8_countAll_55 rfl rfl ?_
                  refine j_get C 56 (ci := 8) hL rfl 0 (wm_o0 bd c Z L3) 11 (by decide) f38 rfl (v := .ref (bd 10)) rfl dX8_countAll_56 ?_
                  refine j_iload C 59 0 dX8_countAll_59 rfl ?_
                  refine j_zald C 61 10 1 (f := Z 10) (wm_a10 bd c Z L3) rfl (by omega) (by decide) dX8_countAll_61 ?_
                  refine j_eqi ((hI i hin).trans (by rw [decide_eq_false hiP])) ?_
                  refine j_if_ne_b C 62 (b := false) 69 dX8_countAll_62 (by decide) (fun h => by cases h) (fun _ => ?_)
                  refine j_lconst C 65 (v := lN 0) dX8_countAll_65 rfl ?_
                  refine j_goto C 66 107 dX8_countAll_66 (by decide) ?_
                  exact j_lv [0, 1, 2, 3, 4] rfl (j107 _ (fun z => absurd z hiP) (fun _ => (hZ3 i hin hiP).symm) _ rfl)
            refine j_iload_n C 37 0 dX8_countAll_37 rfl rfl ?_
            refine j_if_eq_b C 38 (b := true) 160 dX8_countAll_38 (by decide) (fun h => by cases h) (fun _ => ?_)
            refine j_iconst C 41 (v := nI 0) dX8_countAll_41 rfl ?_
            refine j_eqi (show nI 0 = b2 false from rfl) ?_
            refine j_istore_n C 42 (lv' := [(3, .int (b2 (false))), (2, .int (nI (k))), (0, .ref (bd 0)), (1, .int (nI (K)))]) dX8_countAll_42 rfl (by rw [hn]; decide) rfl ?_
            refine j_iconst C 43 (v := nI 0) dX8_countAll_43 rfl ?_
            refine j_istore C 44 (lv' := [(4, .int (nI (0))), (3, .int (b2 (false))), (2, .int (nI (k))), (0, .ref (bd 0)), (1, .int (nI (K)))]) dX8_countAll_44 (by rw [hn]; decide) rfl ?_
            exact j_lv [0, 1, 2, 3, 4] rfl (one n 0 false L2 (by omega) (g_PS_0 hC hIp (fun t ht h => absurd h (by omega))) hZO _ rfl)
      have zero : ∀ q i (L2 : LT), q + i = n → g_CN τ root k (vM L2) → (∀ t, t < i → t ∉ g_P τ root → vM L2 t k = lN 0) → ∀ lv, lv_pick lv [0, 1, 2, 3] = [(3, .int (nI i)), (2, .int (nI k)), (0, .ref (bd 0)), (1, .int (nI K))] → J D κ 0 0 9 lv [] (wm bd c Z L2) := by
        intro q
        induction q with
        | zero =>
          intro i L2 hq hC hZO lv hlv
          obtain rfl : i = n := by omega
          refine j_lv [0, 1, 2, 3] hlv ?_
          refine j_iload_n C 9 0 dX8_countAll_9 rfl rfl ?_
          refine j_aload_n C 10 2 dX8_countAll_10 rfl rfl ?_
          refine j_get C 11 (ci := 8) hL rfl 0 (wm_o0 bd c Z L2) 1 (by decide) f76 rfl (v := .int (Z 41 0)) rfl dX8_countAll_11 ?_
          refine j_eqi hz ?_
          refine j_icmp_ge_n C 14 35 (by omega) (by omega) dX8_countAll_14 (by decide) (fun _ => ?_) (fun h => absurd h (by omega))
          refine j_iconst C 35 (v := nI 1) dX8_countAll_35 rfl ?_
          refine j_eqi (show nI 1 = b2 true from rfl) ?_
          refine j_istore_n C 36 (lv' := [(3, .int (b2 (true))), (2, .int (nI (k))), (0, .ref (bd 0)), (1, .int (nI (K)))]) dX8_countAll_36 rfl (by rw [hn]; decide) rfl ?_
          exact j_lv [0, 1, 2, 3] rfl (passes 49 0 true L2 rfl (fun _ => by omega) hC (fun t ht h => by omega) (fun z => by cases z) hZO _ rfl)
        | succ q ih =>
          intro i L2 hq hC hZO lv hlv
          have hin : i < n := by omega
          refine j_lv [0, 1, 2, 3] hlv ?_
          refine j_iload_n C 9 0 dX8_countAll_9 rfl rfl ?_
          refine j_aload_n C 10 2 dX8_countAll_10 rfl rfl ?_
          refine j_get C 11 (ci := 8) hL rfl 0 (wm_o0 bd c Z L2) 1 (by decide) f76 rfl (v := .int (Z 41 0)) rfl dX8_countAll_11 ?_
          refine j_eqi hz ?_
          refine j_icmp_ge_n C 14 35 (by omega) (by omega) dX8_countAll_14 (by decide) (fun h => absurd h (by omega)) (fun _ => ?_)
          refine j_aload_n C 17 2 dX8_countAll_17 rfl rfl ?_
          refine j_get C 18 (ci := 8) hL rfl 0 (wm_o0 bd c Z L2) 25 (by decide) f63 rfl (v := .ref (bd 17)) rfl dX8_countAll_18 ?_
          refine j_bipush C 21 (v := nI 17) dX8_countAll_21 rfl ?_
          refine j_iload_n C 23 0 dX8_countAll_23 rfl rfl ?_
          refine j_imul_e C 24 dX8_countAll_24 (pk_mul _ _) ?_
          refine j_iload_n C 25 1 dX8_countAll_25 rfl rfl ?_
          refine j_iadd_e C 26 dX8_countAll_26 (nI_add _ _) ?_
          refine j_lconst C 27 (v := lN 0) dX8_countAll_27 rfl ?_
          refine j_last C 28 17 2 (f := L2 17) (wm_a17 bd c Z L2) rfl (by omega) (by decide) (wm_s17 bd c Z L2 (vp_updL (L2 17) ((17) * (i) + k) (lN 0))) dX8_countAll_28 ?_
          refine j_iinc C 29 0 (v := (nI (i + 1))) (lv' := [(3, .int (nI (i + 1))), (2, .int (nI (k))), (0, .ref (bd 0)), (1, .int (nI (K)))]) dX8_countAll_29 rfl (nI_add (i) 1) (by rw [hn]; decide) rfl ?_
          refine j_goto C 32 9 dX8_countAll_32 (by decide) ?_
          refine j_lv [0, 1, 2, 3] rfl (ih (i + 1) _ (by omega) (g_CN_upM hk17 hC) (fun t ht htn => ?_) _ rfl)
          by_cases e : t = i
          · subst e; exact vM_same L2 hk17 _
          · rw [vM_ne hk17 (Or.inl e)]; exact hZO t (by omega) htn
      refine j_iload_n C 2 0 dX8_countAll_2 rfl rfl ?_
      refine j_iload_n C 3 2 dX8_countAll_3 rfl rfl ?_
      refine j_icmp_gt_n C 4 166 (by omega) (by omega) dX8_countAll_4 (by decide) (fun h => absurd h (by omega)) (fun _ => ?_)
      refine j_iconst C 7 (v := nI 0) dX8_countAll_7 rfl ?_
      refine j_istore_n C 8 (lv' := [(3, .int (nI (0))), (2, .int (nI (k))), (0, .ref (bd 0)), (1, .int (nI (K)))]) dX8_countAll_8 rfl (by rw [hn]; decide) rfl ?_
      exact j_lv [0, 1, 2, 3] rfl (zero n 0 L1 (by omega) hCN (fun t ht => by omega) _ rfl)
  refine j_iconst C 0 (v := nI 0) dX8_countAll_0 rfl ?_
  refine j_istore_n C 1 (lv' := [(2, .int (nI (0))), (0, .ref (bd 0)), (1, .int (nI (K)))]) dX8_countAll_1 rfl (by rw [hn]; decide) rfl ?_
  exact j_lv [0, 1, 2] rfl (outer (K + 1) 0 L (by omega) g_CN_0 _ rfl)
set_option maxHeartbeats 4000000 in
set_option maxRecDepth 100000 in
theorem c_X8_wrongCount (ll : Launch) (D : va_G) (bd : Nat → Nat) (c : Nat → ClassId) (Z : ZT) (L : LT) {n : Nat} {τ : Tb} {w : List Nat} {st : Int32} {tr : List Nat} (x y : Int32) (hSM : g_SM n τ w st tr Z) : cI (S := ZT) ll yX8_wrongCount vsX8_wrongCount ({ frames := 3, cells := 0, slots := 0, locals := 73 } : Room) D (tysG c) [.ref (bd 0), .int (x), .int (y)] (wm bd c Z L) (fun Z' => wm bd c Z' L) (fun r Z' => r = nI (k_count n τ x y) ∧ g_fr [7, 8, 9, 10, 11] Z Z' ∧ (k_count n τ x y = 0 → ∃ p k, p < n ∧ x = nI p ∧ k ≤ 16 ∧ y = nI k ∧ g_fo τ p = 0 ∧ g_LF τ p (g_T τ p) ∧ g_YM τ p (g_T τ p) Z' ∧ g_BM τ p Z' ∧ g_IM n τ p Z')) 0 0 := by
  refine cI_start (cc := cX8_wrongCount) (maxL := 3) RX8 rfl (by decide +kernel) rfl (Nat.le_of_ble_eq_true rfl) ?_
  intro κ hlκ C hr _ E hR hn
  subst hlκ
  show J D κ 0 0 0 [(0, .ref (bd 0)), (1, .int (x)), (2, .int (y))] [] (wm bd c Z L)
  obtain ⟨hwf, hE, hz, hwd, h43, h44, htr, htl⟩ := id hSM
  have ht48 := hwf.1
  by_cases hb : bT n x
  · obtain ⟨t, htn, rfl⟩ := (bT_iff hwf.1).mp hb
    have hct : cN (nI t) = t := nI_clamp (by have := hwf.1; omega)
    have hf400 := g_fo_400 hwf htn
    by_cases hfo : g_fo τ t = 0
    · refine j_aload_n C 0 0 dX8_wrongCount_0 rfl rfl ?_
      refine j_iload_n C 1 1 dX8_wrongCount_1 rfl rfl ?_
      refine j_callI (mc := 0) (ms := 0) C 2 (c_X8_isTerm (jl κ) D bd c Z L n (nI (t)) hz) gX8_wrongCount_X8_isTerm rfl rfl rfl hd_X8_isTerm (by rw [hR]; exact ⟨Nat.le_of_ble_eq_true rfl, Nat.le_of_ble_eq_true rfl⟩) (ci := 8) rfl 0 (wm_o0 bd c Z L) rfl (Nat.le_of_ble_eq_true rfl) ⟨Nat.zero_le _, Nat.zero_le _⟩ dX8_wrongCount_2 (fun r2 _ e2 => ?_)
      refine j_eqi (y := b2 true) (e2.trans (by rw [decide_eq_true hb])) ?_
      refine j_if_ne_b C 5 (b := true) 12 dX8_wrongCount_5 (by decide) (fun _ => ?_) (fun h => by cases h)
      refine j_aload_n C 12 0 dX8_wrongCount_12 rfl rfl ?_
      refine j_iload_n C 13 1 dX8_wrongCount_13 rfl rfl ?_
      refine j_callI (mc := 0) (ms := 0) C 14 (c_X8_faultOf (jl κ) D bd c Z L t hwf htn hE hz) gX8_wrongCount_X8_faultOf rfl rfl rfl hd_X8_faultOf (by rw [hR]; exact ⟨Nat.le_of_ble_eq_true rfl, Nat.le_of_ble_eq_true rfl⟩) (ci := 8) rfl 0 (wm_o0 bd c Z L) rfl (Nat.le_of_ble_eq_true rfl) ⟨Nat.zero_le _, Nat.zero_le _⟩ dX8_wrongCount_14 (fun r9 Z9 q9 => ?_)
      obtain ⟨e9, ⟨hLF9, hY9, hB9, hI9⟩, hfr9⟩ := q9
      refine j_eqi (y := nI (0)) (e9.trans (by first | rw [hfo] | rfl)) ?_
      have hSM9 : g_SM n τ w st tr Z9 := g_SM_fr hSM hfr9 (by decide)
      have hTY9 : g_TY τ t (g_T τ t) := g_fo_TY hwf htn hLF9 hfo
      have hE9 : g_EM n τ Z9 := hSM9.2.1
      have hz9 : Z9 41 0 = nI n := hSM9.2.2.1
      refine j_if_eq_n C 17 24 (by omega) dX8_wrongCount_17 (by decide) (fun _ => ?_) (fun h => absurd h (by omega))
      refine j_iload_n C 24 2 dX8_wrongCount_24 rfl rfl ?_
      refine j_if_lt C 25 34 dX8_wrongCount_25 (by decide) (fun h25 => ?_) (fun h25 => ?_)
      · refine j_iconst C 34 (v := nI 3) dX8_wrongCount_34 rfl ?_
        refine j_goto C 35 39 dX8_wrongCount_35 (by decide) ?_
        have hk9 : k_count n τ (nI t) y = 3 := by unfold k_count; rw [if_neg (fun z => z hb), if_neg (by rw [hct]; exact fun z => z hfo), if_pos (Or.inl h25)]
        exact j_ireti C hr E (Nat.le_refl _) (Nat.le_refl _) rfl Z9 ⟨by rw [hk9], hfr9, fun z => absurd z (by rw [hk9]; decide)⟩ rfl dX8_wrongCount_39
      · refine j_iload_n C 28 2 dX8_wrongCount_28 rfl rfl ?_
        refine j_bipush C 29 (v := nI 16) dX8_wrongCount_29 rfl ?_
        refine j_icmp_le C 31 38 dX8_wrongCount_31 (by decide) (fun h31 => ?_) (fun h31 => ?_)
        · refine j_iconst C 38 (v := nI 0) dX8_wrongCount_38 rfl ?_
          have hk9 : k_count n τ (nI t) y = 0 := by unfold k_count; rw [if_neg (fun z => z hb), if_neg (by rw [hct]; exact fun z => z hfo), if_neg (fun z => z.elim h25 (fun z => z h31))]
          obtain ⟨k, hk16, rfl⟩ := e_in2 (by decide) h25 h31
          exact j_ireti C hr E (Nat.le_refl _) (Nat.le_refl _) rfl Z9 ⟨by rw [hk9], hfr9, fun _ => ⟨t, k, htn, rfl, hk16, rfl, hfo, hLF9, hY9, hB9, hI9⟩⟩ rfl dX8_wrongCount_39
        · refine j_iconst C 34 (v := nI 3) dX8_wrongCount_34 rfl ?_
          refine j_goto C 35 39 dX8_wrongCount_35 (by decide) ?_
          have hk9 : k_count n τ (nI t) y = 3 := by unfold k_count; rw [if_neg (fun z => z hb), if_neg (by rw [hct]; exact fun z => z hfo), if_pos (Or.inr h31)]
          exact j_ireti C hr E (Nat.le_refl _) (Nat.le_refl _) rfl Z9 ⟨by rw [hk9], hfr9, fun z => absurd z (by rw [hk9]; decide)⟩ rfl dX8_wrongCount_39
    · refine j_aload_n C 0 0 dX8_wrongCount_0 rfl rfl ?_
      refine j_iload_n C 1 1 dX8_wrongCount_1 rfl rfl ?_
      refine j_callI (mc := 0) (ms := 0) C 2 (c_X8_isTerm (jl κ) D bd c Z L n (nI (t)) hz) gX8_wrongCount_X8_isTerm rfl rfl rfl hd_X8_isTerm (by rw [hR]; exact ⟨Nat.le_of_ble_eq_true rfl, Nat.le_of_ble_eq_true rfl⟩) (ci := 8) rfl 0 (wm_o0 bd c Z L) rfl (Nat.le_of_ble_eq_true rfl) ⟨Nat.zero_le _, Nat.zero_le _⟩ dX8_wrongCount_2 (fun r2 _ e2 => ?_)
      refine j_eqi (y := b2 true) (e2.trans (by rw [decide_eq_true hb])) ?_
      refine j_if_ne_b C 5 (b := true) 12 dX8_wrongCount_5 (by decide) (fun _ => ?_) (fun h => by cases h)
      refine j_aload_n C 12 0 dX8_wrongCount_12 rfl rfl ?_
      refine j_iload_n C 13 1 dX8_wrongCount_13 rfl rfl ?_
      refine j_callI (mc := 0) (ms := 0) C 14 (c_X8_faultOf (jl κ) D bd c Z L t hwf htn hE hz) gX8_wrongCount_X8_faultOf rfl rfl rfl hd_X8_faultOf (by rw [hR]; exact ⟨Nat.le_of_ble_eq_true rfl, Nat.le_of_ble_eq_true rfl⟩) (ci := 8) rfl 0 (wm_o0 bd c Z L) rfl (Nat.le_of_ble_eq_true rfl) ⟨Nat.zero_le _, Nat.zero_le _⟩ dX8_wrongCount_14 (fun r9 Z9 q9 => ?_)
      obtain ⟨e9, ⟨hLF9, hY9, hB9, hI9⟩, hfr9⟩ := q9
      refine j_eqi (y := nI (g_fo τ t)) (e9.trans (by first | rw [hfo] | rfl)) ?_
      have hSM9 : g_SM n τ w st tr Z9 := g_SM_fr hSM hfr9 (by decide)
      refine j_if_eq_n C 17 24 (by omega) dX8_wrongCount_17 (by decide) (fun h => absurd h (by omega)) (fun _ => ?_)
      refine j_iconst C 20 (v := nI 2) dX8_wrongCount_20 rfl ?_
      refine j_goto C 21 39 dX8_wrongCount_21 (by decide) ?_
      have hk9 : k_count n τ (nI t) y = 2 := by unfold k_count; rw [if_neg (fun z => z hb), if_pos (by rw [hct]; exact hfo)]
      exact j_ireti C hr E (Nat.le_refl _) (Nat.le_refl _) rfl Z9 ⟨by rw [hk9], hfr9, fun z => absurd z (by rw [hk9]; decide)⟩ rfl dX8_wrongCount_39
  · refine j_aload_n C 0 0 dX8_wrongCount_0 rfl rfl ?_
    refine j_iload_n C 1 1 dX8_wrongCount_1 rfl rfl ?_
    refine j_callI (mc := 0) (ms := 0) C 2 (c_X8_isTerm (jl κ) D bd c Z L n (x) hz) gX8_wrongCount_X8_isTerm rfl rfl rfl hd_X8_isTerm (by rw [hR]; exact ⟨Nat.le_of_ble_eq_true rfl, Nat.le_of_ble_eq_true rfl⟩) (ci := 8) rfl 0 (wm_o0 bd c Z L) rfl (Nat.le_of_ble_eq_true rfl) ⟨Nat.zero_le _, Nat.zero_le _⟩ dX8_wrongCount_2 (fun r2 _ e2 => ?_)
    refine j_eqi (y := b2 false) (e2.trans (by rw [decide_eq_false hb])) ?_
    refine j_if_ne_b C 5 (b := false) 12 dX8_wrongCount_5 (by decide) (fun h => by cases h) (fun _ => ?_)
    refine j_iconst C 8 (v := nI 1) dX8_wrongCount_8 rfl ?_
    refine j_goto C 9 39 dX8_wrongCount_9 (by decide) ?_
    have hk9 : k_count n τ x y = 1 := by unfold k_count; rw [if_pos hb]
    exact j_ireti C hr E (Nat.le_refl _) (Nat.le_refl _) rfl Z ⟨by rw [hk9], g_fr_rfl, fun z => absurd z (by rw [hk9]; decide)⟩ rfl dX8_wrongCount_39
theorem k_count_3 {n : Nat} {τ : Tb} {x y : Int32} : k_count n τ x y ≤ 3 := by
  unfold k_count
  repeat' split
  all_goals omega
set_option maxHeartbeats 4000000 in
set_option maxRecDepth 100000 in
theorem c_X8_count (ll : Launch) (D : va_G) (bd : Nat → Nat) (c : Nat → ClassId) (Z : ZT) (L : LT) {n : Nat} {τ : Tb} {w : List Nat} {st : Int32} {tr : List Nat} (x y : Int32) (hSM : g_SM n τ w st tr Z) : cL (S := ZT × LT) ll yX8_count vsX8_count ({ frames := 4, cells := 0, slots := 0, locals := 95 } : Room) D (tysG c) [.ref (bd 0), .int (x), .int (y)] (wm bd c Z L) (fun u => wm bd c u.1 u.2) (fun r u => u.1 40 0 = nI (k_count n τ x y) ∧ (k_count n τ x y = 0 → r = lN (g_c τ (cN x) (cN x) (cN y)) ∧ g_SM n τ w st tr u.1) ∧ (k_count n τ x y ≠ 0 → g_SM n τ w st tr u.1)) 0 0 := by
  refine cL_start (cc := cX8_count) (maxL := 3) RX8 rfl (by decide +kernel) rfl (Nat.le_of_ble_eq_true rfl) ?_
  intro κ hlκ C hr _ E hR hn
  subst hlκ
  have hL : ∀ w ∈ u_ws RX8 TX8 28, w.before (ja κ) (js κ) = true := fun w h => C.t w (mX8_count_wsX80 w h)
  have f73 : (Cond.fieldLink RX8 73 "GuardedGrammarModel" (TX8 0).2.1 (TX8 0).2.2.1).before (ja κ) (js κ) = true := C.t (.fieldLink RX8 73 "GuardedGrammarModel" "thrown" "I") (mX8_count_o _ (by decide +kernel))
  have f63 : (Cond.fieldLink RX8 63 "GuardedGrammarModel" (TX8 25).2.1 (TX8 25).2.2.1).before (ja κ) (js κ) = true := C.t (.fieldLink RX8 63 "GuardedGrammarModel" "counts" "[J") (mX8_count_o _ (by decide +kernel))
  show J D κ 0 0 0 [(0, .ref (bd 0)), (1, .int (x)), (2, .int (y))] [] (wm bd c Z L)
  obtain ⟨hwf, hE, hz, hwd, h43, h44, htr, htl⟩ := id hSM
  have ht48 := hwf.1
  have hk3 := k_count_3 (n := n) (τ := τ) (x := x) (y := y)
  by_cases h0 : k_count n τ x y = 0
  · refine j_aload_n C 0 0 dX8_count_0 rfl rfl ?_
    refine j_aload_n C 1 0 dX8_count_1 rfl rfl ?_
    refine j_iload_n C 2 1 dX8_count_2 rfl rfl ?_
    refine j_iload_n C 3 2 dX8_count_3 rfl rfl ?_
    refine j_callI (mc := 0) (ms := 0) C 4 (c_X8_wrongCount (jl κ) D bd c Z L x y hSM) gX8_count_X8_wrongCount rfl rfl rfl hd_X8_wrongCount (by rw [hR]; exact ⟨Nat.le_of_ble_eq_true rfl, Nat.le_of_ble_eq_true rfl⟩) (ci := 8) rfl 0 (wm_o0 bd c Z L) rfl (Nat.le_of_ble_eq_true rfl) ⟨Nat.zero_le _, Nat.zero_le _⟩ dX8_count_4 (fun r4 Z4 q4 => ?_)
    obtain ⟨e4, hfr4, hok4⟩ := q4
    refine j_eqi (y := nI (0)) (e4.trans (by first | rw [h0] | rfl)) ?_
    have hSM4 : g_SM n τ w st tr Z4 := g_SM_fr hSM hfr4 (by decide)
    obtain ⟨p, k, hpn, rfl, hk16, rfl, hfo, hLF4, hY4, hB4, hI4⟩ := hok4 h0
    have hTY4 : g_TY τ p (g_T τ p) := g_fo_TY hwf hpn hLF4 hfo
    have hE4 : g_EM n τ Z4 := hSM4.2.1
    have hz4 : Z4 41 0 = nI n := hSM4.2.2.1
    have hpP := g_P_self hwf hpn
    have hcp : cN (nI p) = p := nI_clamp (by omega)
    have hck : cN (nI k) = k := nI_clamp (by omega)
    refine j_put C 7 (ci := 8) hL tyX8_ok nmX8 rfl 0 (wm_o0 bd c Z4 L) 0 (by decide) f73 rfl rfl (tyX8_ok 0 (by decide)) rfl rfl (Nat.le_of_ble_eq_true rfl) (wm_p40 bd c Z4 L (nI (0))) dX8_count_7 ?_
    refine j_aload_n C 10 0 dX8_count_10 rfl rfl ?_
    refine j_get C 11 (ci := 8) hL rfl 0 (wm_o0 bd c (upR Z4 40 (fun _ => nI (0))) L) 0 (by decide) f73 rfl (v := .int (nI (0))) rfl dX8_count_11 ?_
    refine j_if_le_n C 14 19 (by omega) dX8_count_14 (by decide) (fun _ => ?_) (fun h => absurd h (by omega))
    refine j_aload_n C 19 0 dX8_count_19 rfl rfl ?_
    refine j_iload_n C 20 2 dX8_count_20 rfl rfl ?_
    refine j_callV (mc := 0) (ms := 0) C 21 (c_X8_countAll (jl κ) D bd c (upR Z4 40 (fun _ => nI (0))) L k hwf hpn hE4 hz4 hB4 hI4 hTY4 hk16) gX8_count_X8_countAll rfl rfl rfl hd_X8_countAll (by rw [hR]; exact ⟨Nat.le_of_ble_eq_true rfl, Nat.le_of_ble_eq_true rfl⟩) (ci := 8) rfl 0 (wm_o0 bd c (upR Z4 40 (fun _ => nI (0))) L) rfl (Nat.le_of_ble_eq_true rfl) ⟨Nat.zero_le _, Nat.zero_le _⟩ dX8_count_21 (fun L5 hCN5 => ?_)
    refine j_aload_n C 24 0 dX8_count_24 rfl rfl ?_
    refine j_get C 25 (ci := 8) hL rfl 0 (wm_o0 bd c (upR Z4 40 (fun _ => nI (0))) L5) 25 (by decide) f63 rfl (v := .ref (bd 17)) rfl dX8_count_25 ?_
    refine j_bipush C 28 (v := nI 17) dX8_count_28 rfl ?_
    refine j_iload_n C 30 1 dX8_count_30 rfl rfl ?_
    refine j_imul_e C 31 dX8_count_31 (pk_mul _ _) ?_
    refine j_iload_n C 32 2 dX8_count_32 rfl rfl ?_
    refine j_iadd_e C 33 dX8_count_33 (nI_add _ _) ?_
    refine j_lald C 34 17 2 (f := L5 17) (wm_a17 bd c (upR Z4 40 (fun _ => nI (0))) L5) rfl (by omega) (by decide) dX8_count_34 ?_
    refine j_eql (vM_at (by omega)) ?_
    exact j_lreti C hr E (Nat.le_refl _) (Nat.le_refl _) ((upR Z4 40 (fun _ => nI (0))), L5) ⟨by rw [h0]; rfl, fun _ => ⟨by rw [hcp, hck]; exact hCN5 p hpP k (by omega), g_SM_40 hSM4 _⟩, fun z => absurd h0 z⟩ rfl dX8_count_35
  · refine j_aload_n C 0 0 dX8_count_0 rfl rfl ?_
    refine j_aload_n C 1 0 dX8_count_1 rfl rfl ?_
    refine j_iload_n C 2 1 dX8_count_2 rfl rfl ?_
    refine j_iload_n C 3 2 dX8_count_3 rfl rfl ?_
    refine j_callI (mc := 0) (ms := 0) C 4 (c_X8_wrongCount (jl κ) D bd c Z L x y hSM) gX8_count_X8_wrongCount rfl rfl rfl hd_X8_wrongCount (by rw [hR]; exact ⟨Nat.le_of_ble_eq_true rfl, Nat.le_of_ble_eq_true rfl⟩) (ci := 8) rfl 0 (wm_o0 bd c Z L) rfl (Nat.le_of_ble_eq_true rfl) ⟨Nat.zero_le _, Nat.zero_le _⟩ dX8_count_4 (fun r4 Z4 q4 => ?_)
    obtain ⟨e4, hfr4, hok4⟩ := q4
    refine j_eqi (y := nI (k_count n τ x y)) (e4.trans (by first | rw [h0] | rfl)) ?_
    have hSM4 : g_SM n τ w st tr Z4 := g_SM_fr hSM hfr4 (by decide)
    refine j_put C 7 (ci := 8) hL tyX8_ok nmX8 rfl 0 (wm_o0 bd c Z4 L) 0 (by decide) f73 rfl rfl (tyX8_ok 0 (by decide)) rfl rfl (Nat.le_of_ble_eq_true rfl) (wm_p40 bd c Z4 L (nI (k_count n τ x y))) dX8_count_7 ?_
    refine j_aload_n C 10 0 dX8_count_10 rfl rfl ?_
    refine j_get C 11 (ci := 8) hL rfl 0 (wm_o0 bd c (upR Z4 40 (fun _ => nI (k_count n τ x y))) L) 0 (by decide) f73 rfl (v := .int (nI (k_count n τ x y))) rfl dX8_count_11 ?_
    refine j_if_le_n C 14 19 (by omega) dX8_count_14 (by decide) (fun h => absurd h (by omega)) (fun _ => ?_)
    refine j_lconst C 17 (v := lN 0) dX8_count_17 rfl ?_
    exact j_lreti C hr E (Nat.le_refl _) (Nat.le_refl _) ((upR Z4 40 (fun _ => nI (k_count n τ x y))), L) ⟨rfl, fun z => absurd z h0, fun _ => g_SM_40 hSM4 _⟩ rfl dX8_count_18
