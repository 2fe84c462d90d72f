/-! contracts: Tally -/
set_option maxHeartbeats 4000000 in
set_option maxRecDepth 100000 in
theorem c_X3_words (ll : Launch) (D : va_G) (ad ro : Nat → Nat) (c : Nat → ClassId) (Z : ZT) (L : LT) (t j : Nat) (ht : t < 48) (hj : j < 17) : cL (S := Unit) ll yX3_words vsX3_words ({ frames := 0, cells := 0, slots := 0, locals := 0 } : Room) D (tysG c) [.ref (ad 7), .int (nI (t)), .int (nI (j))] (wd ad ro c Z L) (fun _ => wd ad ro c Z L) (fun r _ => r = L (100 + t) j) 0 0 := by
  refine cL_start (cc := cX3_words) (maxL := 3) RX3 rfl (by decide +kernel) rfl (Nat.le_of_ble_eq_true rfl) ?_
  intro κ hlκ C hr _ E hR hn
  subst hlκ
  have hL : ∀ w ∈ u_ws RX3 TX3 3, w.before (ja κ) (js κ) = true := fun w h => C.t w (mX3_words_wsX30 w h)
  have f11 : (Cond.fieldLink RX3 11 "GuardedGrammar$Tally" (TX3 2).2.1 (TX3 2).2.2.1).before (ja κ) (js κ) = true := C.t (.fieldLink RX3 11 "GuardedGrammar$Tally" "words" "[[J") (mX3_words_o _ (by decide +kernel))
  show J D κ 0 0 0 [(0, .ref (ad 7)), (1, .int (nI (t))), (2, .int (nI (j)))] [] (wd ad ro c Z L)
  refine j_aload_n C 0 0 dX3_words_0 rfl rfl ?_
  refine j_get C 1 (ci := 3) hL rfl 7 (wd_o7 ad ro c Z L) 2 (by decide) f11 rfl (v := .ref (ad 30)) rfl dX3_words_1 ?_
  refine j_iload_n C 4 1 dX3_words_4 rfl rfl ?_
  refine j_aald C 5 30 3 (wd_a30 ad ro c Z L) rfl rfl (by omega) (by decide) (if_pos (by omega)) dX3_words_5 ?_
  refine j_iload_n C 6 2 dX3_words_6 rfl rfl ?_
  refine j_lald C 7 (31 + (t)) 2 (wd_r ad ro c Z L (i := t) (by omega)) rfl (by omega) (by decide) dX3_words_7 ?_
  exact j_lreti C hr E (Nat.le_refl _) (Nat.le_refl _) () rfl rfl dX3_words_8
set_option maxHeartbeats 4000000 in
set_option maxRecDepth 100000 in
theorem c_X3_wordsOfPair (ll : Launch) (D : va_G) (ad ro : Nat → Nat) (c : Nat → ClassId) (Z : ZT) (L : LT) (a b n : Nat) (ha : a < 48) (hb : b < 48) (hn16 : n ≤ 16) : cL (S := Unit) ll yX3_wordsOfPair vsX3_wordsOfPair ({ frames := 0, cells := 0, slots := 0, locals := 0 } : Room) D (tysG c) [.ref (ad 7), .int (nI (a)), .int (nI (b)), .int (nI (n))] (wd ad ro c Z L) (fun _ => wd ad ro c Z L) (fun r _ => r = s64 (fun k => vD L a k * vD L b (n - k)) (n + 1)) 0 0 := by
  refine cL_start (cc := cX3_wordsOfPair) (maxL := 7) RX3 rfl (by decide +kernel) rfl (Nat.le_of_ble_eq_true rfl) ?_
  intro κ hlκ C hr _ E hR hn
  subst hlκ
  have hL : ∀ w ∈ u_ws RX3 TX3 3, w.before (ja κ) (js κ) = true := fun w h => C.t w (mX3_wordsOfPair_wsX30 w h)
  have f11 : (Cond.fieldLink RX3 11 "GuardedGrammar$Tally" (TX3 2).2.1 (TX3 2).2.2.1).before (ja κ) (js κ) = true := C.t (.fieldLink RX3 11 "GuardedGrammar$Tally" "words" "[[J") (mX3_wordsOfPair_o _ (by decide +kernel))
  show J D κ 0 0 0 [(0, .ref (ad 7)), (1, .int (nI (a))), (2, .int (nI (b))), (3, .int (nI (n)))] [] (wd ad ro c Z L)
  have loop : ∀ m i, m + i = n + 1 → ∀ lv, lv_pick lv [0, 1, 2, 3, 4, 5] = [(6, .int (nI i)), (4, .long (s64 (fun k => vD L a k * vD L b (n - k)) i)), (0, .ref (ad 7)), (1, .int (nI a)), (2, .int (nI b)), (3, .int (nI n))] → J D κ 0 0 6 lv [] (wd ad ro c Z L) := by
    intro m
    induction m with
    | zero =>
      intro i hm lv hlv
      obtain rfl : i = n + 1 := by omega
      refine j_lv [0, 1, 2, 3, 4, 5] hlv ?_
      refine j_iload C 6 0 dX3_wordsOfPair_6 rfl ?_
      refine j_iload_n C 8 5 dX3_wordsOfPair_8 rfl rfl ?_
      refine j_icmp_gt_n C 9 44 (by omega) (by omega) dX3_wordsOfPair_9 (by decide) (fun _ => ?_) (fun h => absurd h (by omega))
      refine j_lload C 44 1 dX3_wordsOfPair_44 rfl ?_
      exact j_lreti C hr E (Nat.le_refl _) (Nat.le_refl _) () rfl rfl dX3_wordsOfPair_46
    | succ m ih =>
      intro i hm lv hlv
      refine j_lv [0, 1, 2, 3, 4, 5] hlv ?_
      refine j_iload C 6 0 dX3_wordsOfPair_6 rfl ?_
      refine j_iload_n C 8 5 dX3_wordsOfPair_8 rfl rfl ?_
      refine j_icmp_gt_n C 9 44 (by omega) (by omega) dX3_wordsOfPair_9 (by decide) (fun h => absurd h (by omega)) (fun _ => ?_)
      refine j_lload C 12 1 dX3_wordsOfPair_12 rfl ?_
      refine j_aload_n C 14 2 dX3_wordsOfPair_14 rfl rfl ?_
      refine j_get C 15 (ci := 3) hL rfl 7 (wd_o7 ad ro c Z L) 2 (by decide) f11 rfl (v := .ref (ad 30)) rfl dX3_wordsOfPair_15 ?_
      refine j_iload_n C 18 3 dX3_wordsOfPair_18 rfl rfl ?_
      refine j_aald C 19 30 3 (wd_a30 ad ro c Z L) rfl rfl (by omega) (by decide) (if_pos (by omega)) dX3_wordsOfPair_19 ?_
      refine j_iload C 20 0 dX3_wordsOfPair_20 rfl ?_
      refine j_lald C 22 (31 + (a)) 2 (wd_r ad ro c Z L (i := a) (by omega)) rfl (by omega) (by decide) dX3_wordsOfPair_22 ?_
      refine j_aload_n C 23 2 dX3_wordsOfPair_23 rfl rfl ?_
      refine j_get C 24 (ci := 3) hL rfl 7 (wd_o7 ad ro c Z L) 2 (by decide) f11 rfl (v := .ref (ad 30)) rfl dX3_wordsOfPair_24 ?_
      refine j_iload_n C 27 4 dX3_wordsOfPair_27 rfl rfl ?_
      refine j_aald C 28 30 3 (wd_a30 ad ro c Z L) rfl rfl (by omega) (by decide) (if_pos (by omega)) dX3_wordsOfPair_28 ?_
      refine j_iload_n C 29 5 dX3_wordsOfPair_29 rfl rfl ?_
      refine j_iload C 30 0 dX3_wordsOfPair_30 rfl ?_
      refine j_isub_e C 32 dX3_wordsOfPair_32 (pk_sub (by omega)) ?_
      refine j_lald C 33 (31 + (b)) 2 (wd_r ad ro c Z L (i := b) (by omega)) rfl (by omega) (by decide) dX3_wordsOfPair_33 ?_
      refine j_lmul C 34 dX3_wordsOfPair_34 ?_
      refine j_ladd C 35 dX3_wordsOfPair_35 ?_
      refine j_lstore C 36 (lv' := [(4, .long ((s64 (fun k => vD L a k * vD L b (n - k)) i) + ((L (100 + (a)) (i)) * (L (100 + (b)) (n - i))))), (6, .int (nI (i))), (0, .ref (ad 7)), (1, .int (nI (a))), (2, .int (nI (b))), (3, .int (nI (n)))]) dX3_wordsOfPair_36 (by rw [hn]; decide) rfl ?_
      refine j_iinc C 38 1 (v := (nI (i + 1))) (lv' := [(6, .int (nI (i + 1))), (4, .long ((s64 (fun k => vD L a k * vD L b (n - k)) i) + ((L (100 + (a)) (i)) * (L (100 + (b)) (n - i))))), (0, .ref (ad 7)), (1, .int (nI (a))), (2, .int (nI (b))), (3, .int (nI (n)))]) dX3_wordsOfPair_38 rfl (nI_add (i) 1) (by rw [hn]; decide) rfl ?_
      refine j_goto C 41 6 dX3_wordsOfPair_41 (by decide) ?_
      exact ih (i + 1) (by omega) _ rfl
  refine j_lconst C 0 (v := lN 0) dX3_wordsOfPair_0 rfl ?_
  refine j_lstore C 1 (lv' := [(4, .long (lN 0)), (0, .ref (ad 7)), (1, .int (nI (a))), (2, .int (nI (b))), (3, .int (nI (n)))]) dX3_wordsOfPair_1 (by rw [hn]; decide) rfl ?_
  refine j_iconst C 3 (v := nI 0) dX3_wordsOfPair_3 rfl ?_
  refine j_istore C 4 (lv' := [(6, .int (nI (0))), (4, .long (lN 0)), (0, .ref (ad 7)), (1, .int (nI (a))), (2, .int (nI (b))), (3, .int (nI (n)))]) dX3_wordsOfPair_4 (by rw [hn]; decide) rfl ?_
  exact j_lv [0, 1, 2, 3, 4, 5] rfl (loop (n + 1) 0 (by omega) _ rfl)
set_option maxHeartbeats 4000000 in
set_option maxRecDepth 100000 in
theorem c_X3_wordsByParts (ll : Launch) (D : va_G) (ad ro : Nat → Nat) (c : Nat → ClassId) (Z : ZT) (L : LT) {n : Nat} {τ : Tb} {root : Nat} (t k : Nat) (hwf : g_WF n τ) (hr2 : root < n) (hE : g_ED n τ Z) (hST : g_ST τ root Z) (hT : g_TY τ root (g_T τ root)) (ht : t ∈ g_P τ root) (hk16 : k ≤ 16) : cL (S := Unit) ll yX3_wordsByParts vsX3_wordsByParts ({ frames := 1, cells := 0, slots := 0, locals := 26 } : Room) D (tysG c) [.ref (ad 7), .int (nI (t)), .int (nI (k))] (wd ad ro c Z L) (fun _ => wd ad ro c Z L) (fun r _ => r = g_w64 τ root false (vD L) t k) 0 0 := by
  refine cL_start (cc := cX3_wordsByParts) (maxL := 3) RX3 rfl (by decide +kernel) rfl (Nat.le_of_ble_eq_true rfl) ?_
  intro κ hlκ C hr _ E hR hn
  subst hlκ
  have hL : ∀ w ∈ u_ws RX3 TX3 3, w.before (ja κ) (js κ) = true := fun w h => C.t w (mX3_wordsByParts_wsX30 w h)
  have f16 : (Cond.fieldLink RX3 16 "GuardedGrammar$Tally" (TX3 0).2.1 (TX3 0).2.2.1).before (ja κ) (js κ) = true := C.t (.fieldLink RX3 16 "GuardedGrammar$Tally" "terms" "LGuardedGrammar$Terms;") (mX3_wordsByParts_o _ (by decide +kernel))
  have f11 : (Cond.fieldLink RX3 11 "GuardedGrammar$Tally" (TX3 2).2.1 (TX3 2).2.2.1).before (ja κ) (js κ) = true := C.t (.fieldLink RX3 11 "GuardedGrammar$Tally" "words" "[[J") (mX3_wordsByParts_o _ (by decide +kernel))
  have f20 : (Cond.fieldLink RX3 20 "GuardedGrammar$Tally" (TX3 1).2.1 (TX3 1).2.2.1).before (ja κ) (js κ) = true := C.t (.fieldLink RX3 20 "GuardedGrammar$Tally" "typing" "LGuardedGrammar$Typing;") (mX3_wordsByParts_o _ (by decide +kernel))
  show J D κ 0 0 0 [(0, .ref (ad 7)), (1, .int (nI (t))), (2, .int (nI (k)))] [] (wd ad ro c Z L)
  have ht48 := hwf.1
  have htn := g_P_lt hwf hr2 ht
  have hk6 : g_kd τ t ≤ 6 := (hwf.2 t htn).1
  have hk : g_kd τ t = 0 ∨ g_kd τ t = 1 ∨ g_kd τ t = 2 ∨ g_kd τ t = 3 ∨ g_kd τ t = 4 ∨ g_kd τ t = 5 ∨ g_kd τ t = 6 := by omega
  refine j_aload_n C 0 0 dX3_wordsByParts_0 rfl rfl ?_
  refine j_get C 1 (ci := 3) hL rfl 7 (wd_o7 ad ro c Z L) 0 (by decide) f16 rfl (v := .ref (ad 1)) rfl dX3_wordsByParts_1 ?_
  refine j_iload_n C 4 1 dX3_wordsByParts_4 rfl rfl ?_
  refine j_callI (mc := 0) (ms := 0) C 5 (c_X4_kind (jl κ) D ad ro c Z L (t) (by omega)) gX3_wordsByParts_X4_kind rfl rfl rfl hd_X4_kind (by rw [hR]; exact ⟨Nat.le_of_ble_eq_true rfl, Nat.le_of_ble_eq_true rfl⟩) (ci := 4) rfl 1 (wd_o1 ad ro c Z L) rfl (Nat.le_of_ble_eq_true rfl) ⟨Nat.zero_le _, Nat.zero_le _⟩ dX3_wordsByParts_5 (fun r5 _ e5 => ?_)
  refine j_eqi (y := nI (g_kd τ (t))) (e5.trans (hE _ htn).1) ?_
  rcases hk with hk | hk | hk | hk | hk | hk | hk
  · refine j_eqi (show nI (g_kd τ t) = nI 0 by rw [hk]) ?_
    refine j_tin_n C 8 (a := 0) (off := 44) 52 (by decide) dX3_wordsByParts_8 (by decide) (by decide) (by decide) (by decide) ?_
    refine j_iload_n C 52 2 dX3_wordsByParts_52 rfl rfl ?_
    refine j_if_ne_n C 53 60 (by omega) dX3_wordsByParts_53 (by decide) (fun h53 => ?_) (fun h53 => ?_)
    · refine j_lconst C 60 (v := lN 0) dX3_wordsByParts_60 rfl ?_
      exact j_lreti C hr E (Nat.le_refl _) (Nat.le_refl _) () (by rw [g_w0 hk, if_neg h53]) rfl dX3_wordsByParts_61
    · refine j_lconst C 56 (v := lN 1) dX3_wordsByParts_56 rfl ?_
      refine j_goto C 57 61 dX3_wordsByParts_57 (by decide) ?_
      exact j_lreti C hr E (Nat.le_refl _) (Nat.le_refl _) () (by rw [g_w0 hk, if_pos h53]) rfl dX3_wordsByParts_61
  · refine j_eqi (show nI (g_kd τ t) = nI 1 by rw [hk]) ?_
    refine j_tin_n C 8 (a := 1) (off := 151) 159 (by decide) dX3_wordsByParts_8 (by decide) (by decide) (by decide) (by decide) ?_
    refine j_lconst C 159 (v := lN 0) dX3_wordsByParts_159 rfl ?_
    exact j_lreti C hr E (Nat.le_refl _) (Nat.le_refl _) () (g_w1 hk).symm rfl dX3_wordsByParts_160
  · refine j_eqi (show nI (g_kd τ t) = nI 2 by rw [hk]) ?_
    refine j_tin_n C 8 (a := 2) (off := 54) 62 (by decide) dX3_wordsByParts_8 (by decide) (by decide) (by decide) (by decide) ?_
    refine j_iload_n C 62 2 dX3_wordsByParts_62 rfl rfl ?_
    refine j_iconst C 63 (v := nI 1) dX3_wordsByParts_63 rfl ?_
    refine j_icmp_ne_n C 64 71 (by omega) (by omega) dX3_wordsByParts_64 (by decide) (fun h64 => ?_) (fun h64 => ?_)
    · refine j_lconst C 71 (v := lN 0) dX3_wordsByParts_71 rfl ?_
      exact j_lreti C hr E (Nat.le_refl _) (Nat.le_refl _) () (by rw [g_w2 hk, if_neg h64]) rfl dX3_wordsByParts_72
    · refine j_lconst C 67 (v := lN 1) dX3_wordsByParts_67 rfl ?_
      refine j_goto C 68 72 dX3_wordsByParts_68 (by decide) ?_
      exact j_lreti C hr E (Nat.le_refl _) (Nat.le_refl _) () (by rw [g_w2 hk, if_pos h64]) rfl dX3_wordsByParts_72
  · refine j_eqi (show nI (g_kd τ t) = nI 3 by rw [hk]) ?_
    have hlP := g_lfP hwf hr2 ht (by omega)
    have hrP := g_rtP hwf hr2 ht (by omega)
    refine j_tin_n C 8 (a := 3) (off := 65) 73 (by decide) dX3_wordsByParts_8 (by decide) (by decide) (by decide) (by decide) ?_
    refine j_aload_n C 73 0 dX3_wordsByParts_73 rfl rfl ?_
    refine j_aload_n C 74 0 dX3_wordsByParts_74 rfl rfl ?_
    refine j_get C 75 (ci := 3) hL rfl 7 (wd_o7 ad ro c Z L) 0 (by decide) f16 rfl (v := .ref (ad 1)) rfl dX3_wordsByParts_75 ?_
    refine j_iload_n C 78 1 dX3_wordsByParts_78 rfl rfl ?_
    refine j_callI (mc := 0) (ms := 0) C 79 (c_X4_left (jl κ) D ad ro c Z L (t) (by omega)) gX3_wordsByParts_X4_left rfl rfl rfl hd_X4_left (by rw [hR]; exact ⟨Nat.le_of_ble_eq_true rfl, Nat.le_of_ble_eq_true rfl⟩) (ci := 4) rfl 1 (wd_o1 ad ro c Z L) rfl (Nat.le_of_ble_eq_true rfl) ⟨Nat.zero_le _, Nat.zero_le _⟩ dX3_wordsByParts_79 (fun r79 _ e79 => ?_)
    refine j_eqi (y := nI (g_lf τ (t))) (e79.trans (g_E_lf hE htn (by omega))) ?_
    refine j_aload_n C 82 0 dX3_wordsByParts_82 rfl rfl ?_
    refine j_get C 83 (ci := 3) hL rfl 7 (wd_o7 ad ro c Z L) 0 (by decide) f16 rfl (v := .ref (ad 1)) rfl dX3_wordsByParts_83 ?_
    refine j_iload_n C 86 1 dX3_wordsByParts_86 rfl rfl ?_
    refine j_callI (mc := 0) (ms := 0) C 87 (c_X4_right (jl κ) D ad ro c Z L (t) (by omega)) gX3_wordsByParts_X4_right rfl rfl rfl hd_X4_right (by rw [hR]; exact ⟨Nat.le_of_ble_eq_true rfl, Nat.le_of_ble_eq_true rfl⟩) (ci := 4) rfl 1 (wd_o1 ad ro c Z L) rfl (Nat.le_of_ble_eq_true rfl) ⟨Nat.zero_le _, Nat.zero_le _⟩ dX3_wordsByParts_87 (fun r87 _ e87 => ?_)
    refine j_eqi (y := nI (g_rt τ (t))) (e87.trans (g_E_rt hE htn (by omega))) ?_
    refine j_iload_n C 90 2 dX3_wordsByParts_90 rfl rfl ?_
    refine j_callL (mc := 0) (ms := 0) C 91 (c_X3_wordsOfPair (jl κ) D ad ro c Z L (g_lf τ (t)) (g_rt τ (t)) (k) (by omega) (by omega) (by omega)) gX3_wordsByParts_X3_wordsOfPair rfl rfl rfl hd_X3_wordsOfPair (by rw [hR]; exact ⟨Nat.le_of_ble_eq_true rfl, Nat.le_of_ble_eq_true rfl⟩) (ci := 3) rfl 7 (wd_o7 ad ro c Z L) rfl (Nat.le_of_ble_eq_true rfl) ⟨Nat.zero_le _, Nat.zero_le _⟩ dX3_wordsByParts_91 (fun r91 _ e91 => ?_)
    subst e91
    exact j_lreti C hr E (Nat.le_refl _) (Nat.le_refl _) () (g_w3 (root := root) (m := false) (v := vD L) (n := k) hk).symm rfl dX3_wordsByParts_94
  · refine j_eqi (show nI (g_kd τ t) = nI 4 by rw [hk]) ?_
    have hlP := g_lfP hwf hr2 ht (by omega)
    have hrP := g_rtP hwf hr2 ht (by omega)
    refine j_tin_n C 8 (a := 4) (off := 87) 95 (by decide) dX3_wordsByParts_8 (by decide) (by decide) (by decide) (by decide) ?_
    refine j_aload_n C 95 0 dX3_wordsByParts_95 rfl rfl ?_
    refine j_get C 96 (ci := 3) hL rfl 7 (wd_o7 ad ro c Z L) 2 (by decide) f11 rfl (v := .ref (ad 30)) rfl dX3_wordsByParts_96 ?_
    refine j_aload_n C 99 0 dX3_wordsByParts_99 rfl rfl ?_
    refine j_get C 100 (ci := 3) hL rfl 7 (wd_o7 ad ro c Z L) 0 (by decide) f16 rfl (v := .ref (ad 1)) rfl dX3_wordsByParts_100 ?_
    refine j_iload_n C 103 1 dX3_wordsByParts_103 rfl rfl ?_
    refine j_callI (mc := 0) (ms := 0) C 104 (c_X4_left (jl κ) D ad ro c Z L (t) (by omega)) gX3_wordsByParts_X4_left rfl rfl rfl hd_X4_left (by rw [hR]; exact ⟨Nat.le_of_ble_eq_true rfl, Nat.le_of_ble_eq_true rfl⟩) (ci := 4) rfl 1 (wd_o1 ad ro c Z L) rfl (Nat.le_of_ble_eq_true rfl) ⟨Nat.zero_le _, Nat.zero_le _⟩ dX3_wordsByParts_104 (fun r104 _ e104 => ?_)
    refine j_eqi (y := nI (g_lf τ (t))) (e104.trans (g_E_lf hE htn (by omega))) ?_
    refine j_aald C 107 30 3 (wd_a30 ad ro c Z L) rfl rfl (by omega) (by decide) (if_pos (by omega)) dX3_wordsByParts_107 ?_
    refine j_iload_n C 108 2 dX3_wordsByParts_108 rfl rfl ?_
    refine j_lald C 109 (31 + (g_lf τ (t))) 2 (wd_r ad ro c Z L (i := g_lf τ (t)) (by omega)) rfl (by omega) (by decide) dX3_wordsByParts_109 ?_
    refine j_aload_n C 110 0 dX3_wordsByParts_110 rfl rfl ?_
    refine j_get C 111 (ci := 3) hL rfl 7 (wd_o7 ad ro c Z L) 2 (by decide) f11 rfl (v := .ref (ad 30)) rfl dX3_wordsByParts_111 ?_
    refine j_aload_n C 114 0 dX3_wordsByParts_114 rfl rfl ?_
    refine j_get C 115 (ci := 3) hL rfl 7 (wd_o7 ad ro c Z L) 0 (by decide) f16 rfl (v := .ref (ad 1)) rfl dX3_wordsByParts_115 ?_
    refine j_iload_n C 118 1 dX3_wordsByParts_118 rfl rfl ?_
    refine j_callI (mc := 0) (ms := 0) C 119 (c_X4_right (jl κ) D ad ro c Z L (t) (by omega)) gX3_wordsByParts_X4_right rfl rfl rfl hd_X4_right (by rw [hR]; exact ⟨Nat.le_of_ble_eq_true rfl, Nat.le_of_ble_eq_true rfl⟩) (ci := 4) rfl 1 (wd_o1 ad ro c Z L) rfl (Nat.le_of_ble_eq_true rfl) ⟨Nat.zero_le _, Nat.zero_le _⟩ dX3_wordsByParts_119 (fun r119 _ e119 => ?_)
    refine j_eqi (y := nI (g_rt τ (t))) (e119.trans (g_E_rt hE htn (by omega))) ?_
    refine j_aald C 122 30 3 (wd_a30 ad ro c Z L) rfl rfl (by omega) (by decide) (if_pos (by omega)) dX3_wordsByParts_122 ?_
    refine j_iload_n C 123 2 dX3_wordsByParts_123 rfl rfl ?_
    refine j_lald C 124 (31 + (g_rt τ (t))) 2 (wd_r ad ro c Z L (i := g_rt τ (t)) (by omega)) rfl (by omega) (by decide) dX3_wordsByParts_124 ?_
    refine j_ladd C 125 dX3_wordsByParts_125 ?_
    exact j_lreti C hr E (Nat.le_refl _) (Nat.le_refl _) () (g_w4 (root := root) (m := false) (v := vD L) (n := k) hk).symm rfl dX3_wordsByParts_126
  · refine j_eqi (show nI (g_kd τ t) = nI 5 by rw [hk]) ?_
    obtain ⟨k5, hb5, -⟩ := (hT.2.2 t ht).1 hk
    have hk5 := g_P_lt hwf hr2 (g_B_some hwf hr2 _ _ ht (Nat.le_refl _) hb5).2.2.2.1
    refine j_tin_n C 8 (a := 5) (off := 119) 127 (by decide) dX3_wordsByParts_8 (by decide) (by decide) (by decide) (by decide) ?_
    refine j_aload_n C 127 0 dX3_wordsByParts_127 rfl rfl ?_
    refine j_get C 128 (ci := 3) hL rfl 7 (wd_o7 ad ro c Z L) 2 (by decide) f11 rfl (v := .ref (ad 30)) rfl dX3_wordsByParts_128 ?_
    refine j_aload_n C 131 0 dX3_wordsByParts_131 rfl rfl ?_
    refine j_get C 132 (ci := 3) hL rfl 7 (wd_o7 ad ro c Z L) 1 (by decide) f20 rfl (v := .ref (ad 2)) rfl dX3_wordsByParts_132 ?_
    refine j_iload_n C 135 1 dX3_wordsByParts_135 rfl rfl ?_
    refine j_callI (mc := 0) (ms := 0) C 136 (c_X5_binder (jl κ) D ad ro c Z L (t) (by omega)) gX3_wordsByParts_X5_binder rfl rfl rfl hd_X5_binder (by rw [hR]; exact ⟨Nat.le_of_ble_eq_true rfl, Nat.le_of_ble_eq_true rfl⟩) (ci := 5) rfl 2 (wd_o2 ad ro c Z L) rfl (Nat.le_of_ble_eq_true rfl) ⟨Nat.zero_le _, Nat.zero_le _⟩ dX3_wordsByParts_136 (fun r136 _ e136 => ?_)
    refine j_eqi (y := nI (k5)) (e136.trans ((hST.2.1 t ht hk).1 k5 hb5).1) ?_
    refine j_aald C 139 30 3 (wd_a30 ad ro c Z L) rfl rfl (by omega) (by decide) (if_pos (by omega)) dX3_wordsByParts_139 ?_
    refine j_iload_n C 140 2 dX3_wordsByParts_140 rfl rfl ?_
    refine j_lald C 141 (31 + (k5)) 2 (wd_r ad ro c Z L (i := k5) (by omega)) rfl (by omega) (by decide) dX3_wordsByParts_141 ?_
    exact j_lreti C hr E (Nat.le_refl _) (Nat.le_refl _) () (by rw [g_w5 hk, hb5]; rfl) rfl dX3_wordsByParts_142
  · refine j_eqi (show nI (g_kd τ t) = nI 6 by rw [hk]) ?_
    have hlP := g_lfP hwf hr2 ht (by omega)
    refine j_tin_n C 8 (a := 6) (off := 135) 143 (by decide) dX3_wordsByParts_8 (by decide) (by decide) (by decide) (by decide) ?_
    refine j_aload_n C 143 0 dX3_wordsByParts_143 rfl rfl ?_
    refine j_get C 144 (ci := 3) hL rfl 7 (wd_o7 ad ro c Z L) 2 (by decide) f11 rfl (v := .ref (ad 30)) rfl dX3_wordsByParts_144 ?_
    refine j_aload_n C 147 0 dX3_wordsByParts_147 rfl rfl ?_
    refine j_get C 148 (ci := 3) hL rfl 7 (wd_o7 ad ro c Z L) 0 (by decide) f16 rfl (v := .ref (ad 1)) rfl dX3_wordsByParts_148 ?_
    refine j_iload_n C 151 1 dX3_wordsByParts_151 rfl rfl ?_
    refine j_callI (mc := 0) (ms := 0) C 152 (c_X4_left (jl κ) D ad ro c Z L (t) (by omega)) gX3_wordsByParts_X4_left rfl rfl rfl hd_X4_left (by rw [hR]; exact ⟨Nat.le_of_ble_eq_true rfl, Nat.le_of_ble_eq_true rfl⟩) (ci := 4) rfl 1 (wd_o1 ad ro c Z L) rfl (Nat.le_of_ble_eq_true rfl) ⟨Nat.zero_le _, Nat.zero_le _⟩ dX3_wordsByParts_152 (fun r152 _ e152 => ?_)
    refine j_eqi (y := nI (g_lf τ (t))) (e152.trans (g_E_lf hE htn (by omega))) ?_
    refine j_aald C 155 30 3 (wd_a30 ad ro c Z L) rfl rfl (by omega) (by decide) (if_pos (by omega)) dX3_wordsByParts_155 ?_
    refine j_iload_n C 156 2 dX3_wordsByParts_156 rfl rfl ?_
    refine j_lald C 157 (31 + (g_lf τ (t))) 2 (wd_r ad ro c Z L (i := g_lf τ (t)) (by omega)) rfl (by omega) (by decide) dX3_wordsByParts_157 ?_
    exact j_lreti C hr E (Nat.le_refl _) (Nat.le_refl _) () (g_w6 (root := root) (m := false) (v := vD L) (n := k) hk).symm rfl dX3_wordsByParts_158
set_option maxHeartbeats 4000000 in
set_option maxRecDepth 100000 in
theorem c_X3_countLength (ll : Launch) (D : va_G) (ad ro : Nat → Nat) (c : Nat → ClassId) (Z : ZT) (L : LT) {n : Nat} {τ : Tb} {root : Nat} (k : Nat) (hwf : g_WF n τ) (hr2 : root < n) (hE : g_ED n τ Z) (hST : g_ST τ root Z) (hT : g_TY τ root (g_T τ root)) (hk16 : k ≤ 16) (hCN : g_CN τ root k (vD L)) : cV (S := LT) ll yX3_countLength vsX3_countLength ({ frames := 2, cells := 0, slots := 0, locals := 48 } : Room) D (tysG c) [.ref (ad 7), .int (nI (k))] (wd ad ro c Z L) (fun L1 => wd ad ro c Z L1) (fun L1 => g_CN τ root (k + 1) (vD L1) ∧ g_f1 L L1) 0 0 := by
  refine cV_start (cc := cX3_countLength) (maxL := 8) RX3 rfl (by decide +kernel) rfl (Nat.le_of_ble_eq_true rfl) ?_
  intro κ hlκ C hr _ E hR hn
  subst hlκ
  have hL : ∀ w ∈ u_ws RX3 TX3 3, w.before (ja κ) (js κ) = true := fun w h => C.t w (mX3_countLength_wsX30 w h)
  have f20 : (Cond.fieldLink RX3 20 "GuardedGrammar$Tally" (TX3 1).2.1 (TX3 1).2.2.1).before (ja κ) (js κ) = true := C.t (.fieldLink RX3 20 "GuardedGrammar$Tally" "typing" "LGuardedGrammar$Typing;") (mX3_countLength_o _ (by decide +kernel))
  have f11 : (Cond.fieldLink RX3 11 "GuardedGrammar$Tally" (TX3 2).2.1 (TX3 2).2.2.1).before (ja κ) (js κ) = true := C.t (.fieldLink RX3 11 "GuardedGrammar$Tally" "words" "[[J") (mX3_countLength_o _ (by decide +kernel))
  show J D κ 0 0 0 [(0, .ref (ad 7)), (1, .int (nI (k)))] [] (wd ad ro c Z L)
  have h48n := hwf.1
  have hlen := g_P_len hwf hr2
  -- the passes
  have loopB : ∀ m p (ch : Bool) (L1 : LT), m + p = 49 → g_CN τ root k (vD L1) → g_Ip τ root k p (vD L1) → (ch = false → g_CN τ root (k + 1) (vD L1)) → g_f1 L L1 → ∀ lv, lv_pick lv [0, 1, 2, 3] = [(2, .int (b2 ch)), (3, .int (nI p)), (0, .ref (ad 7)), (1, .int (nI k))] → J D κ 0 0 39 lv [] (wd ad ro c Z L1) := by
    intro m
    induction m with
    | zero =>
      intro p ch L1 hm hC hI hch hf lv hlv
      have hall := g_Ip_all hwf hr2 (show 48 ≤ p by omega) hC hI
      refine j_lv [0, 1, 2, 3] hlv ?_
      refine j_iload_n C 39 0 dX3_countLength_39 rfl rfl ?_
      refine j_if_eq_b C 40 134 dX3_countLength_40 (by decide) (fun h40 => ?_) (fun h40 => ?_)
      · exact j_vreti C hr E (Nat.le_refl _) (Nat.le_refl _) L1 ⟨hall, hf⟩ rfl dX3_countLength_134
      · refine j_iload_n C 43 1 dX3_countLength_43 rfl rfl ?_
        refine j_bipush C 44 (v := nI 48) dX3_countLength_44 rfl ?_
        refine j_icmp_gt_n C 46 134 (by omega) (by omega) dX3_countLength_46 (by decide) (fun _ => ?_) (fun h => absurd h (by omega))
        exact j_vreti C hr E (Nat.le_refl _) (Nat.le_refl _) L1 ⟨hall, hf⟩ rfl dX3_countLength_134
    | succ m ih =>
      intro p ch L1 hm hC hI hch hf lv hlv
      refine j_lv [0, 1, 2, 3] hlv ?_
      -- one pass
      have loopC : ∀ q i (ch : Bool) (L2 : LT), q + i = (g_P τ root).length → g_PS τ root false k p (fun t => t ∈ (g_P τ root).take i) ch (vD L2) → g_f1 L L2 → ∀ lv, lv_pick lv [0, 1, 2, 3, 4] = [(4, .int (nI i)), (2, .int (b2 ch)), (3, .int (nI p)), (0, .ref (ad 7)), (1, .int (nI k))] → J D κ 0 0 54 lv [] (wd ad ro c Z L2) := by
        intro q
        induction q with
        | zero =>
          intro i ch L2 hq hPS hf2 lv hlv
          obtain rfl : i = (g_P τ root).length := by omega
          obtain ⟨e1, e2, e3, e4⟩ := g_PS_end hwf hr2 hT hPS (fun t ht => by rw [List.take_length]; exact ht)
          refine j_lv [0, 1, 2, 3, 4] hlv ?_
          refine j_iload C 54 0 dX3_countLength_54 rfl ?_
          refine j_aload_n C 56 3 dX3_countLength_56 rfl rfl ?_
          refine j_get C 57 (ci := 3) hL rfl 7 (wd_o7 ad ro c Z L2) 1 (by decide) f20 rfl (v := .ref (ad 2)) rfl dX3_countLength_57 ?_
          refine j_callI (mc := 0) (ms := 0) C 60 (c_X5_size (jl κ) D ad ro c Z L2 (48 - (g_P τ root).length) hST.1.1 (by omega)) gX3_countLength_X5_size rfl rfl rfl hd_X5_size (by rw [hR]; exact ⟨Nat.le_of_ble_eq_true rfl, Nat.le_of_ble_eq_true rfl⟩) (ci := 5) rfl 2 (wd_o2 ad ro c Z L2) rfl (Nat.le_of_ble_eq_true rfl) ⟨Nat.zero_le _, Nat.zero_le _⟩ dX3_countLength_60 (fun r60 _ e60 => ?_)
          refine j_eqi (y := nI ((g_P τ root).length)) (e60.trans (by rw [show 48 - (48 - (g_P τ root).length) = (g_P τ root).length by omega])) ?_
          refine j_icmp_ge_n C 63 128 (by omega) (by omega) dX3_countLength_63 (by decide) (fun _ => ?_) (fun h => absurd h (by omega))
          refine j_iinc C 128 2 (v := (nI (p + 1))) (lv' := [(3, .int (nI (p + 1))), (4, .int (nI ((g_P τ root).length))), (2, .int (b2 (ch))), (0, .ref (ad 7)), (1, .int (nI (k)))]) dX3_countLength_128 rfl (nI_add (p) 1) (by rw [hn]; decide) rfl ?_
          refine j_goto C 131 39 dX3_countLength_131 (by decide) ?_
          exact j_lv [2, 0, 3, 4] rfl (ih (p + 1) ch L2 (by omega) e1 e2 e3 hf2 _ rfl)
        | succ q ihq =>
          intro i ch L2 hq hPS hf2 lv hlv
          refine j_lv [0, 1, 2, 3, 4] hlv ?_
          have hlt : i < (g_P τ root).length := by omega
          obtain ⟨u, hu⟩ : ∃ u, u = (g_P τ root)[i] := ⟨_, rfl⟩
          have huP : u ∈ g_P τ root := by rw [hu]; exact List.getElem_mem hlt
          have hun := g_P_lt hwf hr2 huP
          have hoi : Z 15 (48 - (g_P τ root).length + i) = nI u := by rw [hu]; exact hST.1.2 i hlt
          have j110 : ∀ b : Bool, b = (ch || decide (g_w64 τ root false (vD L2) u k ≠ vD L2 u k)) → ∀ lv, lv_pick lv [0, 1, 2, 3, 4, 5, 6] = [(6, .long (g_w64 τ root false (vD L2) (u) (k))), (5, .int (nI u)), (4, .int (nI i)), (2, .int (b2 ch)), (3, .int (nI p)), (0, .ref (ad 7)), (1, .int (nI k))] → J D κ 0 0 110 lv [.int (b2 b)] (wd ad ro c Z L2) := by
            intro b hb lv hlv
            refine j_lv [0, 1, 2, 3, 4, 5, 6] hlv ?_
            refine j_istore_n C 110 (lv' := [(2, .int (b2 (b))), (6, .long (g_w64 τ root false (vD L2) (u) (k))), (5, .int (nI (u))), (4, .int (nI (i))), (3, .int (nI (p))), (0, .ref (ad 7)), (1, .int (nI (k)))]) dX3_countLength_110 rfl (by rw [hn]; decide) rfl ?_
            refine j_aload_n C 111 5 dX3_countLength_111 rfl rfl ?_
            refine j_get C 112 (ci := 3) hL rfl 7 (wd_o7 ad ro c Z L2) 2 (by decide) f11 rfl (v := .ref (ad 30)) rfl dX3_countLength_112 ?_
            refine j_iload C 115 2 dX3_countLength_115 rfl ?_
            refine j_aald C 117 30 3 (wd_a30 ad ro c Z L2) rfl rfl (by omega) (by decide) (if_pos (by omega)) dX3_countLength_117 ?_
            refine j_iload_n C 118 6 dX3_countLength_118 rfl rfl ?_
            refine j_lload C 119 1 dX3_countLength_119 rfl ?_
            refine j_last C 121 (31 + (u)) 2 (wd_r ad ro c Z L2 (i := u) (by omega)) rfl (by omega) (by decide) (wd_sr ad ro c Z L2 (i := u) (by omega) _) dX3_countLength_121 ?_
            refine j_iinc C 122 3 (v := (nI (i + 1))) (lv' := [(4, .int (nI (i + 1))), (2, .int (b2 (b))), (6, .long (g_w64 τ root false (vD L2) (u) (k))), (5, .int (nI (u))), (3, .int (nI (p))), (0, .ref (ad 7)), (1, .int (nI (k)))]) dX3_countLength_122 rfl (nI_add (i) 1) (by rw [hn]; decide) rfl ?_
            refine j_goto C 125 54 dX3_countLength_125 (by decide) ?_
            refine j_lv [0, 1, 4, 5, 6] rfl (ihq (i + 1) b _ (by omega) (g_PS_step hwf hr2 hT huP hPS (vD_same L2 u k _) (fun t j h => vD_ne h) hb (fun t ht hd => ?_)) (g_f1_up hf2 u _) _ rfl)
            have hd2 : t ∈ (g_P τ root).take (i + 1) := hd
            rw [List.take_add_one, List.getElem?_eq_getElem hlt, List.mem_append] at hd2
            rcases hd2 with z | z
            · exact Or.inl z
            · exact Or.inr (by rw [hu]; simpa using z)
          refine j_iload C 54 0 dX3_countLength_54 rfl ?_
          refine j_aload_n C 56 3 dX3_countLength_56 rfl rfl ?_
          refine j_get C 57 (ci := 3) hL rfl 7 (wd_o7 ad ro c Z L2) 1 (by decide) f20 rfl (v := .ref (ad 2)) rfl dX3_countLength_57 ?_
          refine j_callI (mc := 0) (ms := 0) C 60 (c_X5_size (jl κ) D ad ro c Z L2 (48 - (g_P τ root).length) hST.1.1 (by omega)) gX3_countLength_X5_size rfl rfl rfl hd_X5_size (by rw [hR]; exact ⟨Nat.le_of_ble_eq_true rfl, Nat.le_of_ble_eq_true rfl⟩) (ci := 5) rfl 2 (wd_o2 ad ro c Z L2) rfl (Nat.le_of_ble_eq_true rfl) ⟨Nat.zero_le _, Nat.zero_le _⟩ dX3_countLength_60 (fun r60 _ e60 => ?_)
          refine j_eqi (y := nI ((g_P τ root).length)) (e60.trans (by rw [show 48 - (48 - (g_P τ root).length) = (g_P τ root).length by omega])) ?_
          refine j_icmp_ge_n C 63 128 (by omega) (by omega) dX3_countLength_63 (by decide) (fun h => absurd h (by omega)) (fun _ => ?_)
          refine j_aload_n C 66 3 dX3_countLength_66 rfl rfl ?_
          refine j_get C 67 (ci := 3) hL rfl 7 (wd_o7 ad ro c Z L2) 1 (by decide) f20 rfl (v := .ref (ad 2)) rfl dX3_countLength_67 ?_
          refine j_iload C 70 0 dX3_countLength_70 rfl ?_
          refine j_callI (mc := 0) (ms := 0) C 72 (c_X5_inOrder (jl κ) D ad ro c Z L2 (i) (48 - (g_P τ root).length) hST.1.1 (by omega)) gX3_countLength_X5_inOrder rfl rfl rfl hd_X5_inOrder (by rw [hR]; exact ⟨Nat.le_of_ble_eq_true rfl, Nat.le_of_ble_eq_true rfl⟩) (ci := 5) rfl 2 (wd_o2 ad ro c Z L2) rfl (Nat.le_of_ble_eq_true rfl) ⟨Nat.zero_le _, Nat.zero_le _⟩ dX3_countLength_72 (fun r72 _ e72 => ?_)
          refine j_eqi (y := nI (u)) (e72.trans hoi) ?_
          refine j_istore C 75 (lv' := [(5, .int (nI (u))), (4, .int (nI (i))), (2, .int (b2 (ch))), (3, .int (nI (p))), (0, .ref (ad 7)), (1, .int (nI (k)))]) dX3_countLength_75 (by rw [hn]; decide) rfl ?_
          refine j_aload_n C 77 4 dX3_countLength_77 rfl rfl ?_
          refine j_iload C 78 0 dX3_countLength_78 rfl ?_
          refine j_iload_n C 80 5 dX3_countLength_80 rfl rfl ?_
          refine j_callL (mc := 0) (ms := 0) C 81 (c_X3_wordsByParts (jl κ) D ad ro c Z L2 (u) (k) hwf hr2 hE hST hT huP (by omega)) gX3_countLength_X3_wordsByParts rfl rfl rfl hd_X3_wordsByParts (by rw [hR]; exact ⟨Nat.le_of_ble_eq_true rfl, Nat.le_of_ble_eq_true rfl⟩) (ci := 3) rfl 7 (wd_o7 ad ro c Z L2) rfl (Nat.le_of_ble_eq_true rfl) ⟨Nat.zero_le _, Nat.zero_le _⟩ dX3_countLength_81 (fun r81 _ e81 => ?_)
          subst e81
          refine j_lstore C 84 (lv' := [(6, .long (g_w64 τ root false (vD L2) (u) (k))), (5, .int (nI (u))), (4, .int (nI (i))), (2, .int (b2 (ch))), (3, .int (nI (p))), (0, .ref (ad 7)), (1, .int (nI (k)))]) dX3_countLength_84 (by rw [hn]; decide) rfl ?_
          refine j_iload_n C 86 3 dX3_countLength_86 rfl rfl ?_
          refine j_if_ne_b C 87 105 dX3_countLength_87 (by decide) (fun h87 => ?_) (fun h87 => ?_)
          · refine j_iconst C 105 (v := nI 1) dX3_countLength_105 rfl ?_
            refine j_goto C 106 110 dX3_countLength_106 (by decide) ?_
            exact j110 true (by rw [h87]; rfl) _ rfl
          · refine j_lload C 90 0 dX3_countLength_90 rfl ?_
            refine j_aload_n C 92 5 dX3_countLength_92 rfl rfl ?_
            refine j_get C 93 (ci := 3) hL rfl 7 (wd_o7 ad ro c Z L2) 2 (by decide) f11 rfl (v := .ref (ad 30)) rfl dX3_countLength_93 ?_
            refine j_iload C 96 1 dX3_countLength_96 rfl ?_
            refine j_aald C 98 30 3 (wd_a30 ad ro c Z L2) rfl rfl (by omega) (by decide) (if_pos (by omega)) dX3_countLength_98 ?_
            refine j_iload_n C 99 6 dX3_countLength_99 rfl rfl ?_
            refine j_lald C 100 (31 + (u)) 2 (wd_r ad ro c Z L2 (i := u) (by omega)) rfl (by omega) (by decide) dX3_countLength_100 ?_
            refine j_lcmp C 101 dX3_countLength_101 ?_
            refine j_if_eq C 102 109 dX3_countLength_102 (by decide) (fun h102 => ?_) (fun h102 => ?_)
            · refine j_iconst C 109 (v := nI 0) dX3_countLength_109 rfl ?_
              exact j110 false (by rw [h87, Bool.false_or]; symm; rw [decide_eq_false_iff_not]; exact fun z => z (lg_cmp0.mp h102)) _ rfl
            · refine j_iconst C 105 (v := nI 1) dX3_countLength_105 rfl ?_
              refine j_goto C 106 110 dX3_countLength_106 (by decide) ?_
              exact j110 true (by rw [h87, Bool.false_or]; symm; rw [decide_eq_true_iff]; exact fun z => h102 (lg_cmp0.mpr z)) _ rfl
      have e0 : ∀ t, t ∈ g_P τ root → ¬ (t ∈ (g_P τ root).take 0) := fun t _ h => by simp at h
      refine j_iload_n C 39 0 dX3_countLength_39 rfl rfl ?_
      refine j_if_eq_b C 40 134 dX3_countLength_40 (by decide) (fun h40 => ?_) (fun h40 => ?_)
      · exact j_vreti C hr E (Nat.le_refl _) (Nat.le_refl _) L1 ⟨(hch h40), hf⟩ rfl dX3_countLength_134
      · refine j_iload_n C 43 1 dX3_countLength_43 rfl rfl ?_
        refine j_bipush C 44 (v := nI 48) dX3_countLength_44 rfl ?_
        refine j_icmp_gt_n C 46 134 (by omega) (by omega) dX3_countLength_46 (by decide) (fun h => absurd h (by omega)) (fun _ => ?_)
        refine j_iconst C 49 (v := nI 0) dX3_countLength_49 rfl ?_
        refine j_eqi (show nI 0 = b2 false from rfl) ?_
        refine j_istore_n C 50 (lv' := [(2, .int (b2 (false))), (3, .int (nI (p))), (0, .ref (ad 7)), (1, .int (nI (k)))]) dX3_countLength_50 rfl (by rw [hn]; decide) rfl ?_
        refine j_iconst C 51 (v := nI 0) dX3_countLength_51 rfl ?_
        refine j_istore C 52 (lv' := [(4, .int (nI (0))), (2, .int (b2 (false))), (3, .int (nI (p))), (0, .ref (ad 7)), (1, .int (nI (k)))]) dX3_countLength_52 (by rw [hn]; decide) rfl ?_
        exact j_lv [0, 1, 2, 3, 4] rfl (loopC (g_P τ root).length 0 false L1 (by omega) (g_PS_0 hC hI e0) hf _ rfl)
  have loopA : ∀ m i (L1 : LT), m + i = (g_P τ root).length → g_CN τ root k (vD L1) → g_f1 L L1 → ∀ lv, lv_pick lv [0, 1, 2] = [(2, .int (nI i)), (0, .ref (ad 7)), (1, .int (nI k))] → J D κ 0 0 2 lv [] (wd ad ro c Z L1) := by
    intro m
    induction m with
    | zero =>
      intro i L1 hm hC hf lv hlv
      obtain rfl : i = (g_P τ root).length := by omega
      refine j_lv [0, 1, 2] hlv ?_
      refine j_iload_n C 2 0 dX3_countLength_2 rfl rfl ?_
      refine j_aload_n C 3 1 dX3_countLength_3 rfl rfl ?_
      refine j_get C 4 (ci := 3) hL rfl 7 (wd_o7 ad ro c Z L1) 1 (by decide) f20 rfl (v := .ref (ad 2)) rfl dX3_countLength_4 ?_
      refine j_callI (mc := 0) (ms := 0) C 7 (c_X5_size (jl κ) D ad ro c Z L1 (48 - (g_P τ root).length) hST.1.1 (by omega)) gX3_countLength_X5_size rfl rfl rfl hd_X5_size (by rw [hR]; exact ⟨Nat.le_of_ble_eq_true rfl, Nat.le_of_ble_eq_true rfl⟩) (ci := 5) rfl 2 (wd_o2 ad ro c Z L1) rfl (Nat.le_of_ble_eq_true rfl) ⟨Nat.zero_le _, Nat.zero_le _⟩ dX3_countLength_7 (fun r7 _ e7 => ?_)
      refine j_eqi (y := nI ((g_P τ root).length)) (e7.trans (by rw [show 48 - (48 - (g_P τ root).length) = (g_P τ root).length by omega])) ?_
      refine j_icmp_ge_n C 10 35 (by omega) (by omega) dX3_countLength_10 (by decide) (fun _ => ?_) (fun h => absurd h (by omega))
      refine j_iconst C 35 (v := nI 1) dX3_countLength_35 rfl ?_
      refine j_eqi (show nI 1 = b2 true from rfl) ?_
      refine j_istore_n C 36 (lv' := [(2, .int (b2 (true))), (0, .ref (ad 7)), (1, .int (nI (k)))]) dX3_countLength_36 rfl (by rw [hn]; decide) rfl ?_
      refine j_iconst C 37 (v := nI 0) dX3_countLength_37 rfl ?_
      refine j_istore_n C 38 (lv' := [(3, .int (nI (0))), (2, .int (b2 (true))), (0, .ref (ad 7)), (1, .int (nI (k)))]) dX3_countLength_38 rfl (by rw [hn]; decide) rfl ?_
      exact j_lv [1, 0, 2, 3] rfl (loopB 49 0 true L1 rfl hC (fun t ht h => by omega) (fun z => by cases z) hf _ rfl)
    | succ m ih =>
      intro i L1 hm hC hf lv hlv
      refine j_lv [0, 1, 2] hlv ?_
      have hlt : i < (g_P τ root).length := by omega
      obtain ⟨u, hu⟩ : ∃ u, u = (g_P τ root)[i] := ⟨_, rfl⟩
      have huP : u ∈ g_P τ root := by rw [hu]; exact List.getElem_mem hlt
      have hun := g_P_lt hwf hr2 huP
      have hoi : Z 15 (48 - (g_P τ root).length + i) = nI u := by rw [hu]; exact hST.1.2 i hlt
      refine j_iload_n C 2 0 dX3_countLength_2 rfl rfl ?_
      refine j_aload_n C 3 1 dX3_countLength_3 rfl rfl ?_
      refine j_get C 4 (ci := 3) hL rfl 7 (wd_o7 ad ro c Z L1) 1 (by decide) f20 rfl (v := .ref (ad 2)) rfl dX3_countLength_4 ?_
      refine j_callI (mc := 0) (ms := 0) C 7 (c_X5_size (jl κ) D ad ro c Z L1 (48 - (g_P τ root).length) hST.1.1 (by omega)) gX3_countLength_X5_size rfl rfl rfl hd_X5_size (by rw [hR]; exact ⟨Nat.le_of_ble_eq_true rfl, Nat.le_of_ble_eq_true rfl⟩) (ci := 5) rfl 2 (wd_o2 ad ro c Z L1) rfl (Nat.le_of_ble_eq_true rfl) ⟨Nat.zero_le _, Nat.zero_le _⟩ dX3_countLength_7 (fun r7 _ e7 => ?_)
      refine j_eqi (y := nI ((g_P τ root).length)) (e7.trans (by rw [show 48 - (48 - (g_P τ root).length) = (g_P τ root).length by omega])) ?_
      refine j_icmp_ge_n C 10 35 (by omega) (by omega) dX3_countLength_10 (by decide) (fun h => absurd h (by omega)) (fun _ => ?_)
      refine j_aload_n C 13 1 dX3_countLength_13 rfl rfl ?_
      refine j_get C 14 (ci := 3) hL rfl 7 (wd_o7 ad ro c Z L1) 2 (by decide) f11 rfl (v := .ref (ad 30)) rfl dX3_countLength_14 ?_
      refine j_aload_n C 17 1 dX3_countLength_17 rfl rfl ?_
      refine j_get C 18 (ci := 3) hL rfl 7 (wd_o7 ad ro c Z L1) 1 (by decide) f20 rfl (v := .ref (ad 2)) rfl dX3_countLength_18 ?_
      refine j_iload_n C 21 0 dX3_countLength_21 rfl rfl ?_
      refine j_callI (mc := 0) (ms := 0) C 22 (c_X5_inOrder (jl κ) D ad ro c Z L1 (i) (48 - (g_P τ root).length) hST.1.1 (by omega)) gX3_countLength_X5_inOrder rfl rfl rfl hd_X5_inOrder (by rw [hR]; exact ⟨Nat.le_of_ble_eq_true rfl, Nat.le_of_ble_eq_true rfl⟩) (ci := 5) rfl 2 (wd_o2 ad ro c Z L1) rfl (Nat.le_of_ble_eq_true rfl) ⟨Nat.zero_le _, Nat.zero_le _⟩ dX3_countLength_22 (fun r22 _ e22 => ?_)
      refine j_eqi (y := nI (u)) (e22.trans hoi) ?_
      refine j_aald C 25 30 3 (wd_a30 ad ro c Z L1) rfl rfl (by omega) (by decide) (if_pos (by omega)) dX3_countLength_25 ?_
      refine j_iload_n C 26 2 dX3_countLength_26 rfl rfl ?_
      refine j_lconst C 27 (v := lN 0) dX3_countLength_27 rfl ?_
      refine j_last C 28 (31 + (u)) 2 (wd_r ad ro c Z L1 (i := u) (by omega)) rfl (by omega) (by decide) (wd_sr ad ro c Z L1 (i := u) (by omega) _) dX3_countLength_28 ?_
      refine j_iinc C 29 0 (v := (nI (i + 1))) (lv' := [(2, .int (nI (i + 1))), (0, .ref (ad 7)), (1, .int (nI (k)))]) dX3_countLength_29 rfl (nI_add (i) 1) (by rw [hn]; decide) rfl ?_
      refine j_goto C 32 2 dX3_countLength_32 (by decide) ?_
      exact ih (i + 1) _ (by omega) (g_CN_up hC) (g_f1_up hf u _) _ rfl
  refine j_iconst C 0 (v := nI 0) dX3_countLength_0 rfl ?_
  refine j_istore_n C 1 (lv' := [(2, .int (nI (0))), (0, .ref (ad 7)), (1, .int (nI (k)))]) dX3_countLength_1 rfl (by rw [hn]; decide) rfl ?_
  exact j_lv [0, 1, 2] rfl (loopA (g_P τ root).length 0 L (by omega) hCN g_f1_rfl _ rfl)
set_option maxHeartbeats 4000000 in
set_option maxRecDepth 100000 in
theorem c_X3_countTo (ll : Launch) (D : va_G) (ad ro : Nat → Nat) (c : Nat → ClassId) (Z : ZT) (L : LT) {n : Nat} {τ : Tb} {root : Nat} (k : Nat) (hwf : g_WF n τ) (hr2 : root < n) (hE : g_ED n τ Z) (hST : g_ST τ root Z) (hT : g_TY τ root (g_T τ root)) (hk16 : k ≤ 16) : cV (S := LT) ll yX3_countTo vsX3_countTo ({ frames := 3, cells := 0, slots := 0, locals := 75 } : Room) D (tysG c) [.ref (ad 7), .int (nI (k))] (wd ad ro c Z L) (fun L1 => wd ad ro c Z L1) (fun L1 => g_CN τ root (k + 1) (vD L1) ∧ g_f1 L L1) 0 0 := by
  refine cV_start (cc := cX3_countTo) (maxL := 3) RX3 rfl (by decide +kernel) rfl (Nat.le_of_ble_eq_true rfl) ?_
  intro κ hlκ C hr _ E hR hn
  subst hlκ
  show J D κ 0 0 0 [(0, .ref (ad 7)), (1, .int (nI (k)))] [] (wd ad ro c Z L)
  have loop : ∀ m i (L1 : LT), m + i = k + 1 → g_CN τ root i (vD L1) → g_f1 L L1 → ∀ lv, lv_pick lv [0, 1, 2] = [(2, .int (nI i)), (0, .ref (ad 7)), (1, .int (nI k))] → J D κ 0 0 2 lv [] (wd ad ro c Z L1) := by
    intro m
    induction m with
    | zero =>
      intro i L1 hm hC hf lv hlv
      obtain rfl : i = k + 1 := by omega
      refine j_lv [0, 1, 2] hlv ?_
      refine j_iload_n C 2 0 dX3_countTo_2 rfl rfl ?_
      refine j_iload_n C 3 2 dX3_countTo_3 rfl rfl ?_
      refine j_icmp_gt_n C 4 18 (by omega) (by omega) dX3_countTo_4 (by decide) (fun _ => ?_) (fun h => absurd h (by omega))
      exact j_vreti C hr E (Nat.le_refl _) (Nat.le_refl _) L1 ⟨hC, hf⟩ rfl dX3_countTo_18
    | succ m ih =>
      intro i L1 hm hC hf lv hlv
      refine j_lv [0, 1, 2] hlv ?_
      refine j_iload_n C 2 0 dX3_countTo_2 rfl rfl ?_
      refine j_iload_n C 3 2 dX3_countTo_3 rfl rfl ?_
      refine j_icmp_gt_n C 4 18 (by omega) (by omega) dX3_countTo_4 (by decide) (fun h => absurd h (by omega)) (fun _ => ?_)
      refine j_aload_n C 7 1 dX3_countTo_7 rfl rfl ?_
      refine j_iload_n C 8 0 dX3_countTo_8 rfl rfl ?_
      refine j_callV (mc := 0) (ms := 0) C 9 (c_X3_countLength (jl κ) D ad ro c Z L1 i hwf hr2 hE hST hT (by omega) hC) gX3_countTo_X3_countLength rfl rfl rfl hd_X3_countLength (by rw [hR]; exact ⟨Nat.le_of_ble_eq_true rfl, Nat.le_of_ble_eq_true rfl⟩) (ci := 3) rfl 7 (wd_o7 ad ro c Z L1) rfl (Nat.le_of_ble_eq_true rfl) ⟨Nat.zero_le _, Nat.zero_le _⟩ dX3_countTo_9 (fun L2 q2 => ?_)
      refine j_iinc C 12 0 (v := (nI (i + 1))) (lv' := [(2, .int (nI (i + 1))), (0, .ref (ad 7)), (1, .int (nI (k)))]) dX3_countTo_12 rfl (nI_add (i) 1) (by rw [hn]; decide) rfl ?_
      refine j_goto C 15 2 dX3_countTo_15 (by decide) ?_
      exact ih (i + 1) L2 (by omega) q2.1 (g_f1_trans hf q2.2) _ rfl
  refine j_iconst C 0 (v := nI 0) dX3_countTo_0 rfl ?_
  refine j_istore_n C 1 (lv' := [(2, .int (nI (0))), (0, .ref (ad 7)), (1, .int (nI (k)))]) dX3_countTo_1 rfl (by rw [hn]; decide) rfl ?_
  exact j_lv [0, 1, 2] rfl (loop (k + 1) 0 L (by omega) g_CN_0 g_f1_rfl _ rfl)
