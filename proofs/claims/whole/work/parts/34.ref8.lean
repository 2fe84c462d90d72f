/-! contracts: the reference, find -/
theorem j_ll {D : va_G} {κ : Kx} {cells slots pc : Nat} {lv : List (Nat × Value)} {st : List Value} {bd : Nat → Nat} {c : Nat → ClassId} {Z : ZT} {L L' : LT} (h : L = L') (k : J D κ cells slots pc lv st (wm bd c Z L')) : J D κ cells slots pc lv st (wm bd c Z L) := h ▸ k
theorem upR_idL (L : LT) (k : Nat) : L = upR L k (L k) := by
  funext j
  unfold upR
  cases h : Nat.beq j k with
  | false => rfl
  | true => rw [Nat.eq_of_beq_eq_true h]; rfl
abbrev wL2 (L : LT) (f g : Nat → Int64) : LT := upR (upR L 18 f) 19 g
theorem wL2_id (L : LT) : L = wL2 L (L 18) (L 19) := (upR_idL L 18).trans (upR_idL _ 19)
theorem wL2_19 (L : LT) (f g g' : Nat → Int64) : upR (wL2 L f g) 19 g' = wL2 L f g' := upR_upR _ 19 g g'
theorem wL2_18 (L : LT) (f g f' : Nat → Int64) : upR (wL2 L f g) 18 f' = wL2 L f' g := by
  funext j
  by_cases e : j = 18
  · subst e; rfl
  by_cases e2 : j = 19
  · subst e2; rfl
  have b1 : Nat.beq j 18 = false := by cases h : Nat.beq j 18 with | false => rfl | true => exact absurd (Nat.eq_of_beq_eq_true h) e
  have b2 : Nat.beq j 19 = false := by cases h : Nat.beq j 19 with | false => rfl | true => exact absurd (Nat.eq_of_beq_eq_true h) e2
  show (bif Nat.beq j 18 then f' else bif Nat.beq j 19 then g else bif Nat.beq j 18 then f else L j) = (bif Nat.beq j 19 then g else bif Nat.beq j 18 then f' else L j)
  rw [b1, b2]
  rfl
theorem vL_same {f : Nat → Int64} {k : Nat} {x : Int64} : vp_updL f k x k = x := if_pos rfl
theorem vL_ne {f : Nat → Int64} {k j : Nat} {x : Int64} (h : j ≠ k) : vp_updL f k x j = f j := if_neg h
theorem g_len_cv2 {τ : Tb} {root t j : Nat} {σ : List Nat} {R c : Nat → Int64} (hR : ∀ b, b ≤ j → R b = lN (g_N τ root σ b)) (hc : ∀ b, b ≤ j → c b = lN (g_c τ root t b)) : s64 (fun b => R b * c (j - b)) (j + 1) = lN (g_N τ root (t :: σ) j) := by
  rw [g_N_cv, g_cv_sp]
  apply s64_lN
  intro b hb
  show R b * c (j - b) = lN (g_N τ root σ b * g_c τ root t (j - b))
  rw [hR b (by omega), hc (j - b) (by omega), lN_mul]
theorem nI_ex (x : Int32) : ∃ k, x = nI k := ⟨x.toBitVec.toNat, by
  apply Int32.toBitVec_inj.mp
  show x.toBitVec = BitVec.ofNat 32 x.toBitVec.toNat
  simp⟩
theorem g_ar_all {f : Nat → Int32} {l : List Nat} (h : ∀ j (hj : j < l.length), j < l.length → f j = nI l[j]) : g_ar f 0 l := fun j hj => by rw [Nat.zero_add]; exact h j hj hj
theorem vM_fl {L L' : LT} (h : L' 17 = L 17) : vM L' = vM L := by funext t j; unfold vM; rw [h]
set_option maxHeartbeats 4000000 in
set_option maxRecDepth 100000 in
theorem c_X8_keep (ll : Launch) (D : va_G) (bd : Nat → Nat) (c : Nat → ClassId) (Z : ZT) (L : LT) (l : List Nat) (h47 : Z 47 0 = nI l.length) (h15 : g_ar (Z 15) 0 l) (hl : l.length < 2000) : cV (S := ZT) ll yX8_keep vsX8_keep ({ frames := 0, cells := 0, slots := 0, locals := 0 } : Room) D (tysG c) [.ref (bd 0)] (wm bd c Z L) (fun Z' => wm bd c Z' L) (fun Z' => Z' 48 0 = nI l.length ∧ g_ar (Z' 16) 0 l ∧ g_fr [16, 48] Z Z') 0 0 := by
  refine cV_start (cc := cX8_keep) (maxL := 2) RX8 rfl (by decide +kernel) rfl (Nat.le_of_ble_eq_true rfl) ?_
  intro κ hlκ C hr _ E hR hn
  subst hlκ
  have hL : ∀ w ∈ u_ws RX8 TX8 28, w.before (ja κ) (js κ) = true := fun w h => C.t w (mX8_keep_wsX80 w h)
  have f116 : (Cond.fieldLink RX8 116 "GuardedGrammarModel" (TX8 21).2.1 (TX8 21).2.2.1).before (ja κ) (js κ) = true := C.t (.fieldLink RX8 116 "GuardedGrammarModel" "open" "I") (mX8_keep_o _ (by decide +kernel))
  have f151 : (Cond.fieldLink RX8 151 "GuardedGrammarModel" (TX8 23).2.1 (TX8 23).2.2.1).before (ja κ) (js κ) = true := C.t (.fieldLink RX8 151 "GuardedGrammarModel" "saved" "I") (mX8_keep_o _ (by decide +kernel))
  have f60 : (Cond.fieldLink RX8 60 "GuardedGrammarModel" (TX8 24).2.1 (TX8 24).2.2.1).before (ja κ) (js κ) = true := C.t (.fieldLink RX8 60 "GuardedGrammarModel" "todoSaved" "[I") (mX8_keep_o _ (by decide +kernel))
  have f57 : (Cond.fieldLink RX8 57 "GuardedGrammarModel" (TX8 22).2.1 (TX8 22).2.2.1).before (ja κ) (js κ) = true := C.t (.fieldLink RX8 57 "GuardedGrammarModel" "todo" "[I") (mX8_keep_o _ (by decide +kernel))
  show J D κ 0 0 0 [(0, .ref (bd 0))] [] (wm bd c Z L)
  refine j_aload_n C 0 0 dX8_keep_0 rfl rfl ?_
  refine j_aload_n C 1 0 dX8_keep_1 rfl rfl ?_
  refine j_get C 2 (ci := 8) hL rfl 0 (wm_o0 bd c Z L) 21 (by decide) f116 rfl (v := .int (Z 47 0)) rfl dX8_keep_2 ?_
  refine j_eqi h47 ?_
  refine j_put C 5 (ci := 8) hL tyX8_ok nmX8 rfl 0 (wm_o0 bd c Z L) 23 (by decide) f151 rfl rfl (tyX8_ok 23 (by decide)) rfl rfl (Nat.le_of_ble_eq_true rfl) (wm_p48 bd c Z L (nI (l.length))) dX8_keep_5 ?_
  refine j_iconst C 8 (v := nI 0) dX8_keep_8 rfl ?_
  refine j_istore_n C 9 (lv' := [(1, .int (nI (0))), (0, .ref (bd 0))]) dX8_keep_9 rfl (by rw [hn]; decide) rfl ?_
  have loop : ∀ q i (f3 : Nat → Int32), q + i = l.length → (∀ j (hj : j < l.length), j < i → f3 j = nI l[j]) → ∀ lv, lv_pick lv [0, 1] = [(1, .int (nI i)), (0, .ref (bd 0))] → J D κ 0 0 10 lv [] (wm bd c (upR (upR Z 48 (fun _ => nI (l.length))) 16 f3) L) := by
    intro q
    induction q with
    | zero =>
      intro i f3 hq hf lv hlv
      obtain rfl : i = l.length := by omega
      refine j_lv [0, 1] hlv ?_
      refine j_iload_n C 10 0 dX8_keep_10 rfl rfl ?_
      refine j_aload_n C 11 1 dX8_keep_11 rfl rfl ?_
      refine j_get C 12 (ci := 8) hL rfl 0 (wm_o0 bd c (upR (upR Z 48 (fun _ => nI (l.length))) 16 f3) L) 21 (by decide) f116 rfl (v := .int (Z 47 0)) rfl dX8_keep_12 ?_
      refine j_eqi h47 ?_
      refine j_icmp_ge_n C 15 36 (by omega) (by omega) dX8_keep_15 (by decide) (fun _ => ?_) (fun h => absurd h (by omega))
      exact j_vreti C hr E (Nat.le_refl _) (Nat.le_refl _) (upR (upR Z 48 (fun _ => nI (l.length))) 16 f3) ⟨rfl, g_ar_all hf, (g_fr_up (g_fr_up g_fr_rfl (by decide) _) (by decide) _)⟩ rfl dX8_keep_36
    | succ q ih3 =>
      intro i f3 hq hf lv hlv
      have hil : i < l.length := by omega
      have hsi := h15 i hil
      rw [Nat.zero_add] at hsi
      refine j_lv [0, 1] hlv ?_
      refine j_iload_n C 10 0 dX8_keep_10 rfl rfl ?_
      refine j_aload_n C 11 1 dX8_keep_11 rfl rfl ?_
      refine j_get C 12 (ci := 8) hL rfl 0 (wm_o0 bd c (upR (upR Z 48 (fun _ => nI (l.length))) 16 f3) L) 21 (by decide) f116 rfl (v := .int (Z 47 0)) rfl dX8_keep_12 ?_
      refine j_eqi h47 ?_
      refine j_icmp_ge_n C 15 36 (by omega) (by omega) dX8_keep_15 (by decide) (fun h => absurd h (by omega)) (fun _ => ?_)
      refine j_aload_n C 18 1 dX8_keep_18 rfl rfl ?_
      refine j_get C 19 (ci := 8) hL rfl 0 (wm_o0 bd c (upR (upR Z 48 (fun _ => nI (l.length))) 16 f3) L) 24 (by decide) f60 rfl (v := .ref (bd 16)) rfl dX8_keep_19 ?_
      refine j_iload_n C 22 0 dX8_keep_22 rfl rfl ?_
      refine j_aload_n C 23 1 dX8_keep_23 rfl rfl ?_
      refine j_get C 24 (ci := 8) hL rfl 0 (wm_o0 bd c (upR (upR Z 48 (fun _ => nI (l.length))) 16 f3) L) 22 (by decide) f57 rfl (v := .ref (bd 15)) rfl dX8_keep_24 ?_
      refine j_iload_n C 27 0 dX8_keep_27 rfl rfl ?_
      refine j_iald C 28 15 0 (f := Z 15) (wm_a15 bd c (upR (upR Z 48 (fun _ => nI (l.length))) 16 f3) L) rfl (by omega) (by decide) dX8_keep_28 ?_
      refine j_eqi hsi ?_
      refine j_iast C 29 16 0 (f := f3) (wm_a16 bd c (upR (upR Z 48 (fun _ => nI (l.length))) 16 f3) L) rfl (by omega) (by decide) (wm_s16 bd c (upR (upR Z 48 (fun _ => nI (l.length))) 16 f3) L (upd (f3) (i) (nI (l[i])))) dX8_keep_29 ?_
      refine j_iinc C 30 0 (v := (nI (i + 1))) (lv' := [(1, .int (nI (i + 1))), (0, .ref (bd 0))]) dX8_keep_30 rfl (nI_add (i) 1) (by rw [hn]; decide) rfl ?_
      refine j_goto C 33 10 dX8_keep_33 (by decide) ?_
      refine j_lv [0, 1] rfl (j_zz (upR_upR _ 16 f3 (upd f3 i (nI l[i]))) (ih3 (i + 1) (upd f3 i (nI l[i])) (by omega) (fun j hj hji => ?_) _ rfl))
      by_cases e : j = i
      · subst e; rw [e_upd_same]
      · rw [e_upd_ne _ _ e]; exact hf j hj (by omega)
  refine j_zz (upR_id _ 16) (j_lv [0, 1] rfl (loop l.length 0 (Z 16) (by omega) (fun j hj hji => by omega) _ rfl))
set_option maxHeartbeats 4000000 in
set_option maxRecDepth 100000 in
theorem c_X8_back (ll : Launch) (D : va_G) (bd : Nat → Nat) (c : Nat → ClassId) (Z : ZT) (L : LT) (l : List Nat) (h48 : Z 48 0 = nI l.length) (h16 : g_ar (Z 16) 0 l) (hl : l.length < 2000) : cV (S := ZT) ll yX8_back vsX8_back ({ frames := 0, cells := 0, slots := 0, locals := 0 } : Room) D (tysG c) [.ref (bd 0)] (wm bd c Z L) (fun Z' => wm bd c Z' L) (fun Z' => Z' 47 0 = nI l.length ∧ g_ar (Z' 15) 0 l ∧ Z' 45 0 = nI 0 ∧ g_fr [15, 45, 47] Z Z') 0 0 := by
  refine cV_start (cc := cX8_back) (maxL := 2) RX8 rfl (by decide +kernel) rfl (Nat.le_of_ble_eq_true rfl) ?_
  intro κ hlκ C hr _ E hR hn
  subst hlκ
  have hL : ∀ w ∈ u_ws RX8 TX8 28, w.before (ja κ) (js κ) = true := fun w h => C.t w (mX8_back_wsX80 w h)
  have f126 : (Cond.fieldLink RX8 126 "GuardedGrammarModel" (TX8 18).2.1 (TX8 18).2.2.1).before (ja κ) (js κ) = true := C.t (.fieldLink RX8 126 "GuardedGrammarModel" "fresh" "I") (mX8_back_o _ (by decide +kernel))
  have f151 : (Cond.fieldLink RX8 151 "GuardedGrammarModel" (TX8 23).2.1 (TX8 23).2.2.1).before (ja κ) (js κ) = true := C.t (.fieldLink RX8 151 "GuardedGrammarModel" "saved" "I") (mX8_back_o _ (by decide +kernel))
  have f116 : (Cond.fieldLink RX8 116 "GuardedGrammarModel" (TX8 21).2.1 (TX8 21).2.2.1).before (ja κ) (js κ) = true := C.t (.fieldLink RX8 116 "GuardedGrammarModel" "open" "I") (mX8_back_o _ (by decide +kernel))
  have f57 : (Cond.fieldLink RX8 57 "GuardedGrammarModel" (TX8 22).2.1 (TX8 22).2.2.1).before (ja κ) (js κ) = true := C.t (.fieldLink RX8 57 "GuardedGrammarModel" "todo" "[I") (mX8_back_o _ (by decide +kernel))
  have f60 : (Cond.fieldLink RX8 60 "GuardedGrammarModel" (TX8 24).2.1 (TX8 24).2.2.1).before (ja κ) (js κ) = true := C.t (.fieldLink RX8 60 "GuardedGrammarModel" "todoSaved" "[I") (mX8_back_o _ (by decide +kernel))
  show J D κ 0 0 0 [(0, .ref (bd 0))] [] (wm bd c Z L)
  refine j_aload_n C 0 0 dX8_back_0 rfl rfl ?_
  refine j_iconst C 1 (v := nI 0) dX8_back_1 rfl ?_
  refine j_put C 2 (ci := 8) hL tyX8_ok nmX8 rfl 0 (wm_o0 bd c Z L) 18 (by decide) f126 rfl rfl (tyX8_ok 18 (by decide)) rfl rfl (Nat.le_of_ble_eq_true rfl) (wm_p45 bd c Z L (nI (0))) dX8_back_2 ?_
  refine j_aload_n C 5 0 dX8_back_5 rfl rfl ?_
  refine j_aload_n C 6 0 dX8_back_6 rfl rfl ?_
  refine j_get C 7 (ci := 8) hL rfl 0 (wm_o0 bd c (upR Z 45 (fun _ => nI (0))) L) 23 (by decide) f151 rfl (v := .int (Z 48 0)) rfl dX8_back_7 ?_
  refine j_eqi h48 ?_
  refine j_put C 10 (ci := 8) hL tyX8_ok nmX8 rfl 0 (wm_o0 bd c (upR Z 45 (fun _ => nI (0))) L) 21 (by decide) f116 rfl rfl (tyX8_ok 21 (by decide)) rfl rfl (Nat.le_of_ble_eq_true rfl) (wm_p47 bd c (upR Z 45 (fun _ => nI (0))) L (nI (l.length))) dX8_back_10 ?_
  refine j_iconst C 13 (v := nI 0) dX8_back_13 rfl ?_
  refine j_istore_n C 14 (lv' := [(1, .int (nI (0))), (0, .ref (bd 0))]) dX8_back_14 rfl (by rw [hn]; decide) rfl ?_
  have loop : ∀ q i (f3 : Nat → Int32), q + i = l.length → (∀ j (hj : j < l.length), j < i → f3 j = nI l[j]) → ∀ lv, lv_pick lv [0, 1] = [(1, .int (nI i)), (0, .ref (bd 0))] → J D κ 0 0 15 lv [] (wm bd c (upR (upR (upR Z 45 (fun _ => nI (0))) 47 (fun _ => nI (l.length))) 15 f3) L) := by
    intro q
    induction q with
    | zero =>
      intro i f3 hq hf lv hlv
      obtain rfl : i = l.length := by omega
      refine j_lv [0, 1] hlv ?_
      refine j_iload_n C 15 0 dX8_back_15 rfl rfl ?_
      refine j_aload_n C 16 1 dX8_back_16 rfl rfl ?_
      refine j_get C 17 (ci := 8) hL rfl 0 (wm_o0 bd c (upR (upR (upR Z 45 (fun _ => nI (0))) 47 (fun _ => nI (l.length))) 15 f3) L) 23 (by decide) f151 rfl (v := .int (Z 48 0)) rfl dX8_back_17 ?_
      refine j_eqi h48 ?_
      refine j_icmp_ge_n C 20 41 (by omega) (by omega) dX8_back_20 (by decide) (fun _ => ?_) (fun h => absurd h (by omega))
      exact j_vreti C hr E (Nat.le_refl _) (Nat.le_refl _) (upR (upR (upR Z 45 (fun _ => nI (0))) 47 (fun _ => nI (l.length))) 15 f3) ⟨rfl, g_ar_all hf, rfl, (g_fr_up (g_fr_up (g_fr_up g_fr_rfl (by decide) _) (by decide) _) (by decide) _)⟩ rfl dX8_back_41
    | succ q ih3 =>
      intro i f3 hq hf lv hlv
      have hil : i < l.length := by omega
      have hsi := h16 i hil
      rw [Nat.zero_add] at hsi
      refine j_lv [0, 1] hlv ?_
      refine j_iload_n C 15 0 dX8_back_15 rfl rfl ?_
      refine j_aload_n C 16 1 dX8_back_16 rfl rfl ?_
      refine j_get C 17 (ci := 8) hL rfl 0 (wm_o0 bd c (upR (upR (upR Z 45 (fun _ => nI (0))) 47 (fun _ => nI (l.length))) 15 f3) L) 23 (by decide) f151 rfl (v := .int (Z 48 0)) rfl dX8_back_17 ?_
      refine j_eqi h48 ?_
      refine j_icmp_ge_n C 20 41 (by omega) (by omega) dX8_back_20 (by decide) (fun h => absurd h (by omega)) (fun _ => ?_)
      refine j_aload_n C 23 1 dX8_back_23 rfl rfl ?_
      refine j_get C 24 (ci := 8) hL rfl 0 (wm_o0 bd c (upR (upR (upR Z 45 (fun _ => nI (0))) 47 (fun _ => nI (l.length))) 15 f3) L) 22 (by decide) f57 rfl (v := .ref (bd 15)) rfl dX8_back_24 ?_
      refine j_iload_n C 27 0 dX8_back_27 rfl rfl ?_
      refine j_aload_n C 28 1 dX8_back_28 rfl rfl ?_
      refine j_get C 29 (ci := 8) hL rfl 0 (wm_o0 bd c (upR (upR (upR Z 45 (fun _ => nI (0))) 47 (fun _ => nI (l.length))) 15 f3) L) 24 (by decide) f60 rfl (v := .ref (bd 16)) rfl dX8_back_29 ?_
      refine j_iload_n C 32 0 dX8_back_32 rfl rfl ?_
      refine j_iald C 33 16 0 (f := Z 16) (wm_a16 bd c (upR (upR (upR Z 45 (fun _ => nI (0))) 47 (fun _ => nI (l.length))) 15 f3) L) rfl (by omega) (by decide) dX8_back_33 ?_
      refine j_eqi hsi ?_
      refine j_iast C 34 15 0 (f := f3) (wm_a15 bd c (upR (upR (upR Z 45 (fun _ => nI (0))) 47 (fun _ => nI (l.length))) 15 f3) L) rfl (by omega) (by decide) (wm_s15 bd c (upR (upR (upR Z 45 (fun _ => nI (0))) 47 (fun _ => nI (l.length))) 15 f3) L (upd (f3) (i) (nI (l[i])))) dX8_back_34 ?_
      refine j_iinc C 35 0 (v := (nI (i + 1))) (lv' := [(1, .int (nI (i + 1))), (0, .ref (bd 0))]) dX8_back_35 rfl (nI_add (i) 1) (by rw [hn]; decide) rfl ?_
      refine j_goto C 38 15 dX8_back_38 (by decide) ?_
      refine j_lv [0, 1] rfl (j_zz (upR_upR _ 15 f3 (upd f3 i (nI l[i]))) (ih3 (i + 1) (upd f3 i (nI l[i])) (by omega) (fun j hj hji => ?_) _ rfl))
      by_cases e : j = i
      · subst e; rw [e_upd_same]
      · rw [e_upd_ne _ _ e]; exact hf j hj (by omega)
  refine j_zz (upR_id _ 15) (j_lv [0, 1] rfl (loop l.length 0 (Z 15) (by omega) (fun j hj hji => by omega) _ rfl))
set_option maxHeartbeats 4000000 in
set_option maxRecDepth 100000 in
theorem c_X8_countOpen (ll : Launch) (D : va_G) (bd : Nat → Nat) (c : Nat → ClassId) (Z : ZT) (L : LT) {n : Nat} {τ : Tb} {root K : Nat} (m : Nat) (l : List Nat) (hwf : g_WF n τ) (hr2 : root < n) (h47 : Z 47 0 = nI l.length) (h15 : g_ar (Z 15) 0 l) (hl : l.length < 2000) (hlP : ∀ u, u ∈ l → u ∈ g_P τ root) (hCN : g_CN τ root (K + 1) (vM L)) (hmK : m ≤ K) (hK : K ≤ 16) : cL (S := LT) ll yX8_countOpen vsX8_countOpen ({ frames := 0, cells := 0, slots := 0, locals := 0 } : Room) D (tysG c) [.ref (bd 0), .int (nI (m))] (wm bd c Z L) (fun L' => wm bd c Z L') (fun r L' => r = lN (g_N τ root l.reverse m) ∧ L' 17 = L 17) 0 0 := by
  refine cL_start (cc := cX8_countOpen) (maxL := 5) RX8 rfl (by decide +kernel) rfl (Nat.le_of_ble_eq_true rfl) ?_
  intro κ hlκ C hr _ E hR hn
  subst hlκ
  have hL : ∀ w ∈ u_ws RX8 TX8 28, w.before (ja κ) (js κ) = true := fun w h => C.t w (mX8_countOpen_wsX80 w h)
  have f67 : (Cond.fieldLink RX8 67 "GuardedGrammarModel" (TX8 26).2.1 (TX8 26).2.2.1).before (ja κ) (js κ) = true := C.t (.fieldLink RX8 67 "GuardedGrammarModel" "row" "[J") (mX8_countOpen_o _ (by decide +kernel))
  have f116 : (Cond.fieldLink RX8 116 "GuardedGrammarModel" (TX8 21).2.1 (TX8 21).2.2.1).before (ja κ) (js κ) = true := C.t (.fieldLink RX8 116 "GuardedGrammarModel" "open" "I") (mX8_countOpen_o _ (by decide +kernel))
  have f70 : (Cond.fieldLink RX8 70 "GuardedGrammarModel" (TX8 27).2.1 (TX8 27).2.2.1).before (ja κ) (js κ) = true := C.t (.fieldLink RX8 70 "GuardedGrammarModel" "other" "[J") (mX8_countOpen_o _ (by decide +kernel))
  have f63 : (Cond.fieldLink RX8 63 "GuardedGrammarModel" (TX8 25).2.1 (TX8 25).2.2.1).before (ja κ) (js κ) = true := C.t (.fieldLink RX8 63 "GuardedGrammarModel" "counts" "[J") (mX8_countOpen_o _ (by decide +kernel))
  have f57 : (Cond.fieldLink RX8 57 "GuardedGrammarModel" (TX8 22).2.1 (TX8 22).2.2.1).before (ja κ) (js κ) = true := C.t (.fieldLink RX8 57 "GuardedGrammarModel" "todo" "[I") (mX8_countOpen_o _ (by decide +kernel))
  show J D κ 0 0 0 [(0, .ref (bd 0)), (1, .int (nI (m)))] [] (wm bd c Z L)
  have h48n := hwf.1
  -- the rows one by one
  have rows : ∀ q i (f g : Nat → Int64), q + i = l.length → (∀ j, j ≤ m → f j = lN (g_N τ root (l.take i).reverse j)) → ∀ lv, lv_pick lv [0, 1, 2] = [(2, .int (nI i)), (0, .ref (bd 0)), (1, .int (nI m))] → J D κ 0 0 30 lv [] (wm bd c Z (wL2 L f g)) := by
    intro q
    induction q with
    | zero =>
      intro i f g hq hf lv hlv
      obtain rfl : i = l.length := by omega
      refine j_lv [0, 1, 2] hlv ?_
      refine j_iload_n C 30 0 dX8_countOpen_30 rfl rfl ?_
      refine j_aload_n C 31 1 dX8_countOpen_31 rfl rfl ?_
      refine j_get C 32 (ci := 8) hL rfl 0 (wm_o0 bd c Z (wL2 L f g)) 21 (by decide) f116 rfl (v := .int (Z 47 0)) rfl dX8_countOpen_32 ?_
      refine j_eqi h47 ?_
      refine j_icmp_ge_n C 35 144 (by omega) (by omega) dX8_countOpen_35 (by decide) (fun _ => ?_) (fun h => absurd h (by omega))
      refine j_aload_n C 144 1 dX8_countOpen_144 rfl rfl ?_
      refine j_get C 145 (ci := 8) hL rfl 0 (wm_o0 bd c Z (wL2 L f g)) 26 (by decide) f67 rfl (v := .ref (bd 18)) rfl dX8_countOpen_145 ?_
      refine j_iload_n C 148 2 dX8_countOpen_148 rfl rfl ?_
      refine j_lald C 149 18 2 (f := f) (wm_a18 bd c Z (wL2 L f g)) rfl (by omega) (by decide) dX8_countOpen_149 ?_
      exact j_lreti C hr E (Nat.le_refl _) (Nat.le_refl _) (wL2 L f g) ⟨by rw [hf m (Nat.le_refl _), List.take_length], rfl⟩ rfl dX8_countOpen_150
    | succ q ihR =>
      intro i f g hq hf lv hlv
      have hil : i < l.length := by omega
      obtain ⟨t, ht⟩ : ∃ t, t = l[i] := ⟨_, rfl⟩
      have htP : t ∈ g_P τ root := by rw [ht]; exact hlP _ (List.getElem_mem hil)
      have htn := g_P_lt hwf hr2 htP
      have h15i : Z 15 i = nI t := by have q9 := h15 i hil; rw [Nat.zero_add] at q9; rw [q9, ht]
      have hct : ∀ b, b ≤ m → vM L t b = lN (g_c τ root t b) := fun b hb => hCN t htP b (by omega)
      have hnx : (l.take (i + 1)).reverse = t :: (l.take i).reverse := by
        rw [List.take_add_one, List.getElem?_eq_getElem hil, List.reverse_append, ht]
        rfl
      refine j_lv [0, 1, 2] hlv ?_
      -- the other row becomes the row
      have cpy : ∀ q j (f' g' : Nat → Int64), q + j = m + 1 → (∀ x, x ≤ m → g' x = s64 (fun b => f b * vM L t (x - b)) (x + 1)) → (∀ x, x < j → f' x = g' x) → ∀ lv, lv_pick lv [0, 1, 2, 3] = [(3, .int (nI j)), (2, .int (nI i)), (0, .ref (bd 0)), (1, .int (nI m))] → J D κ 0 0 115 lv [] (wm bd c Z (wL2 L f' g')) := by
        intro q
        induction q with
        | zero =>
          intro j f' g' hq hg' hf' lv hlv
          obtain rfl : j = m + 1 := by omega
          refine j_lv [0, 1, 2, 3] hlv ?_
          refine j_iload_n C 115 0 dX8_countOpen_115 rfl rfl ?_
          refine j_iload_n C 116 3 dX8_countOpen_116 rfl rfl ?_
          refine j_icmp_gt_n C 117 138 (by omega) (by omega) dX8_countOpen_117 (by decide) (fun _ => ?_) (fun h => absurd h (by omega))
          refine j_iinc C 138 1 (v := (nI (i + 1))) (lv' := [(2, .int (nI (i + 1))), (3, .int (nI (m + 1))), (0, .ref (bd 0)), (1, .int (nI (m)))]) dX8_countOpen_138 rfl (nI_add (i) 1) (by rw [hn]; decide) rfl ?_
          refine j_goto C 141 30 dX8_countOpen_141 (by decide) ?_
          exact j_lv [0, 2, 3] rfl (ihR (i + 1) f' g' (by omega) (fun j hj => by rw [hf' j (by omega), hg' j hj, hnx]; exact g_len_cv2 (fun b hb => hf b (by omega)) (fun b hb => hct b (by omega))) _ rfl)
        | succ q ih =>
          intro j f' g' hq hg' hf' lv hlv
          refine j_lv [0, 1, 2, 3] hlv ?_
          refine j_iload_n C 115 0 dX8_countOpen_115 rfl rfl ?_
          refine j_iload_n C 116 3 dX8_countOpen_116 rfl rfl ?_
          refine j_icmp_gt_n C 117 138 (by omega) (by omega) dX8_countOpen_117 (by decide) (fun h => absurd h (by omega)) (fun _ => ?_)
          refine j_aload_n C 120 2 dX8_countOpen_120 rfl rfl ?_
          refine j_get C 121 (ci := 8) hL rfl 0 (wm_o0 bd c Z (wL2 L f' g')) 26 (by decide) f67 rfl (v := .ref (bd 18)) rfl dX8_countOpen_121 ?_
          refine j_iload_n C 124 0 dX8_countOpen_124 rfl rfl ?_
          refine j_aload_n C 125 2 dX8_countOpen_125 rfl rfl ?_
          refine j_get C 126 (ci := 8) hL rfl 0 (wm_o0 bd c Z (wL2 L f' g')) 27 (by decide) f70 rfl (v := .ref (bd 19)) rfl dX8_countOpen_126 ?_
          refine j_iload_n C 129 0 dX8_countOpen_129 rfl rfl ?_
          refine j_lald C 130 19 2 (f := g') (wm_a19 bd c Z (wL2 L f' g')) rfl (by omega) (by decide) dX8_countOpen_130 ?_
          refine j_last C 131 18 2 (f := f') (wm_a18 bd c Z (wL2 L f' g')) rfl (by omega) (by decide) (wm_s18 bd c Z (wL2 L f' g') (vp_updL (f') (j) ((g') (j)))) dX8_countOpen_131 ?_
          refine j_iinc C 132 0 (v := (nI (j + 1))) (lv' := [(3, .int (nI (j + 1))), (2, .int (nI (i))), (0, .ref (bd 0)), (1, .int (nI (m)))]) dX8_countOpen_132 rfl (nI_add (j) 1) (by rw [hn]; decide) rfl ?_
          refine j_goto C 135 115 dX8_countOpen_135 (by decide) ?_
          refine j_lv [0, 1, 2, 3] rfl (j_ll (wL2_18 L f' g' _) (ih (j + 1) _ g' (by omega) hg' (fun x hx => ?_) _ rfl))
          by_cases e : x = j
          · subst e; exact vL_same
          · rw [vL_ne e]; exact hf' x (by omega)
      -- the other row
      have oth : ∀ q j (g' : Nat → Int64), q + j = m + 1 → (∀ x, x < j → g' x = s64 (fun b => f b * vM L t (x - b)) (x + 1)) → ∀ lv, lv_pick lv [0, 1, 2, 3] = [(3, .int (nI j)), (2, .int (nI i)), (0, .ref (bd 0)), (1, .int (nI m))] → J D κ 0 0 40 lv [] (wm bd c Z (wL2 L f g')) := by
        intro q
        induction q with
        | zero =>
          intro j g' hq hg' lv hlv
          obtain rfl : j = m + 1 := by omega
          refine j_lv [0, 1, 2, 3] hlv ?_
          refine j_iload_n C 40 0 dX8_countOpen_40 rfl rfl ?_
          refine j_iload_n C 41 3 dX8_countOpen_41 rfl rfl ?_
          refine j_icmp_gt_n C 42 113 (by omega) (by omega) dX8_countOpen_42 (by decide) (fun _ => ?_) (fun h => absurd h (by omega))
          refine j_iconst C 113 (v := nI 0) dX8_countOpen_113 rfl ?_
          refine j_istore_n C 114 (lv' := [(3, .int (nI (0))), (2, .int (nI (i))), (0, .ref (bd 0)), (1, .int (nI (m)))]) dX8_countOpen_114 rfl (by rw [hn]; decide) rfl ?_
          exact j_lv [0, 1, 2, 3] rfl (cpy (m + 1) 0 f g' (by omega) (fun x hx => hg' x (by omega)) (fun x hx => by omega) _ rfl)
        | succ q ih =>
          intro j g' hq hg' lv hlv
          have hjm : j ≤ m := by omega
          refine j_lv [0, 1, 2, 3] hlv ?_
          have sum : ∀ q2 b (g2 : Nat → Int64), q2 + b = j + 1 → (∀ x, x < j → g2 x = s64 (fun b => f b * vM L t (x - b)) (x + 1)) → g2 j = s64 (fun b => f b * vM L t (j - b)) b → ∀ lv, lv_pick lv [0, 1, 2, 3, 4] = [(4, .int (nI b)), (3, .int (nI j)), (2, .int (nI i)), (0, .ref (bd 0)), (1, .int (nI m))] → J D κ 0 0 55 lv [] (wm bd c Z (wL2 L f g2)) := by
            intro q2
            induction q2 with
            | zero =>
              intro b g2 hq2 hg2 hg2j lv hlv
              obtain rfl : b = j + 1 := by omega
              refine j_lv [0, 1, 2, 3, 4] hlv ?_
              refine j_iload C 55 0 dX8_countOpen_55 rfl ?_
              refine j_iload_n C 57 1 dX8_countOpen_57 rfl rfl ?_
              refine j_icmp_gt_n C 58 107 (by omega) (by omega) dX8_countOpen_58 (by decide) (fun _ => ?_) (fun h => absurd h (by omega))
              refine j_iinc C 107 1 (v := (nI (j + 1))) (lv' := [(3, .int (nI (j + 1))), (4, .int (nI (j + 1))), (2, .int (nI (i))), (0, .ref (bd 0)), (1, .int (nI (m)))]) dX8_countOpen_107 rfl (nI_add (j) 1) (by rw [hn]; decide) rfl ?_
              refine j_goto C 110 40 dX8_countOpen_110 (by decide) ?_
              exact j_lv [0, 2, 3, 4] rfl (ih (j + 1) g2 (by omega) (fun x hx => by by_cases e : x = j; rw [e]; exact hg2j; exact hg2 x (by omega)) _ rfl)
            | succ q2 ih2 =>
              intro b g2 hq2 hg2 hg2j lv hlv
              have hbj : b ≤ j := by omega
              refine j_lv [0, 1, 2, 3, 4] hlv ?_
              refine j_iload C 55 0 dX8_countOpen_55 rfl ?_
              refine j_iload_n C 57 1 dX8_countOpen_57 rfl rfl ?_
              refine j_icmp_gt_n C 58 107 (by omega) (by omega) dX8_countOpen_58 (by decide) (fun h => absurd h (by omega)) (fun _ => ?_)
              refine j_aload_n C 61 3 dX8_countOpen_61 rfl rfl ?_
              refine j_get C 62 (ci := 8) hL rfl 0 (wm_o0 bd c Z (wL2 L f g2)) 27 (by decide) f70 rfl (v := .ref (bd 19)) rfl dX8_countOpen_62 ?_
              refine j_iload_n C 65 1 dX8_countOpen_65 rfl rfl ?_
              refine j_aload_n C 66 3 dX8_countOpen_66 rfl rfl ?_
              refine j_get C 67 (ci := 8) hL rfl 0 (wm_o0 bd c Z (wL2 L f g2)) 27 (by decide) f70 rfl (v := .ref (bd 19)) rfl dX8_countOpen_67 ?_
              refine j_iload_n C 70 1 dX8_countOpen_70 rfl rfl ?_
              refine j_lald C 71 19 2 (f := g2) (wm_a19 bd c Z (wL2 L f g2)) rfl (by omega) (by decide) dX8_countOpen_71 ?_
              refine j_aload_n C 72 3 dX8_countOpen_72 rfl rfl ?_
              refine j_get C 73 (ci := 8) hL rfl 0 (wm_o0 bd c Z (wL2 L f g2)) 26 (by decide) f67 rfl (v := .ref (bd 18)) rfl dX8_countOpen_73 ?_
              refine j_iload C 76 0 dX8_countOpen_76 rfl ?_
              refine j_lald C 78 18 2 (f := f) (wm_a18 bd c Z (wL2 L f g2)) rfl (by omega) (by decide) dX8_countOpen_78 ?_
              refine j_aload_n C 79 3 dX8_countOpen_79 rfl rfl ?_
              refine j_get C 80 (ci := 8) hL rfl 0 (wm_o0 bd c Z (wL2 L f g2)) 25 (by decide) f63 rfl (v := .ref (bd 17)) rfl dX8_countOpen_80 ?_
              refine j_bipush C 83 (v := nI 17) dX8_countOpen_83 rfl ?_
              refine j_aload_n C 85 3 dX8_countOpen_85 rfl rfl ?_
              refine j_get C 86 (ci := 8) hL rfl 0 (wm_o0 bd c Z (wL2 L f g2)) 22 (by decide) f57 rfl (v := .ref (bd 15)) rfl dX8_countOpen_86 ?_
              refine j_iload_n C 89 2 dX8_countOpen_89 rfl rfl ?_
              refine j_iald C 90 15 0 (f := Z 15) (wm_a15 bd c Z (wL2 L f g2)) rfl (by omega) (by decide) dX8_countOpen_90 ?_
              refine j_eqi h15i ?_
              refine j_imul_e C 91 dX8_countOpen_91 (pk_mul _ _) ?_
              refine j_iload_n C 92 1 dX8_countOpen_92 rfl rfl ?_
              refine j_iadd_e C 93 dX8_countOpen_93 (nI_add _ _) ?_
              refine j_iload C 94 0 dX8_countOpen_94 rfl ?_
              refine j_isub_e C 96 dX8_countOpen_96 (pk_sub (by omega)) ?_
              refine j_lald C 97 17 2 (f := (wL2 L f g2) 17) (wm_a17 bd c Z (wL2 L f g2)) rfl (by omega) (by decide) dX8_countOpen_97 ?_
              refine j_eql (vM_at2 (by omega) (by omega)) ?_
              refine j_lmul C 98 dX8_countOpen_98 ?_
              refine j_ladd C 99 dX8_countOpen_99 ?_
              refine j_last C 100 19 2 (f := g2) (wm_a19 bd c Z (wL2 L f g2)) rfl (by omega) (by decide) (wm_s19 bd c Z (wL2 L f g2) (vp_updL (g2) (j) (((g2) (j)) + (((f) (b)) * (vM L (t) (j - (b))))))) dX8_countOpen_100 ?_
              refine j_iinc C 101 0 (v := (nI (b + 1))) (lv' := [(4, .int (nI (b + 1))), (3, .int (nI (j))), (2, .int (nI (i))), (0, .ref (bd 0)), (1, .int (nI (m)))]) dX8_countOpen_101 rfl (nI_add (b) 1) (by rw [hn]; decide) rfl ?_
              refine j_goto C 104 55 dX8_countOpen_104 (by decide) ?_
              refine j_lv [0, 1, 2, 3, 4] rfl (j_ll (wL2_19 L f g2 _) (ih2 (b + 1) _ (by omega) (fun x hx => ?_) ?_ _ rfl))
              · rw [vL_ne (by omega)]; exact hg2 x hx
              · rw [vL_same, hg2j]; rfl
          refine j_iload_n C 40 0 dX8_countOpen_40 rfl rfl ?_
          refine j_iload_n C 41 3 dX8_countOpen_41 rfl rfl ?_
          refine j_icmp_gt_n C 42 113 (by omega) (by omega) dX8_countOpen_42 (by decide) (fun h => absurd h (by omega)) (fun _ => ?_)
          refine j_aload_n C 45 2 dX8_countOpen_45 rfl rfl ?_
          refine j_get C 46 (ci := 8) hL rfl 0 (wm_o0 bd c Z (wL2 L f g')) 27 (by decide) f70 rfl (v := .ref (bd 19)) rfl dX8_countOpen_46 ?_
          refine j_iload_n C 49 0 dX8_countOpen_49 rfl rfl ?_
          refine j_lconst C 50 (v := lN 0) dX8_countOpen_50 rfl ?_
          refine j_last C 51 19 2 (f := g') (wm_a19 bd c Z (wL2 L f g')) rfl (by omega) (by decide) (wm_s19 bd c Z (wL2 L f g') (vp_updL (g') (j) (lN 0))) dX8_countOpen_51 ?_
          refine j_iconst C 52 (v := nI 0) dX8_countOpen_52 rfl ?_
          refine j_istore C 53 (lv' := [(4, .int (nI (0))), (3, .int (nI (j))), (2, .int (nI (i))), (0, .ref (bd 0)), (1, .int (nI (m)))]) dX8_countOpen_53 (by rw [hn]; decide) rfl ?_
          exact j_lv [0, 1, 2, 3, 4] rfl (j_ll (wL2_19 L f g' _) (sum (j + 1) 0 _ (by omega) (fun x hx => by rw [vL_ne (by omega)]; exact hg' x hx) vL_same _ rfl))
      refine j_iload_n C 30 0 dX8_countOpen_30 rfl rfl ?_
      refine j_aload_n C 31 1 dX8_countOpen_31 rfl rfl ?_
      refine j_get C 32 (ci := 8) hL rfl 0 (wm_o0 bd c Z (wL2 L f g)) 21 (by decide) f116 rfl (v := .int (Z 47 0)) rfl dX8_countOpen_32 ?_
      refine j_eqi h47 ?_
      refine j_icmp_ge_n C 35 144 (by omega) (by omega) dX8_countOpen_35 (by decide) (fun h => absurd h (by omega)) (fun _ => ?_)
      refine j_iconst C 38 (v := nI 0) dX8_countOpen_38 rfl ?_
      refine j_istore_n C 39 (lv' := [(3, .int (nI (0))), (2, .int (nI (i))), (0, .ref (bd 0)), (1, .int (nI (m)))]) dX8_countOpen_39 rfl (by rw [hn]; decide) rfl ?_
      exact j_lv [0, 1, 2, 3] rfl (oth (m + 1) 0 g (by omega) (fun x hx => by omega) _ rfl)
  have fst : ∀ q i (f g : Nat → Int64), q + i = m + 1 → (∀ j, j < i → f j = lN (g_d0 j)) → ∀ lv, lv_pick lv [0, 1, 2] = [(2, .int (nI i)), (0, .ref (bd 0)), (1, .int (nI m))] → J D κ 0 0 2 lv [] (wm bd c Z (wL2 L f g)) := by
    intro q
    induction q with
    | zero =>
      intro i f g hq hf lv hlv
      obtain rfl : i = m + 1 := by omega
      refine j_lv [0, 1, 2] hlv ?_
      refine j_iload_n C 2 0 dX8_countOpen_2 rfl rfl ?_
      refine j_iload_n C 3 2 dX8_countOpen_3 rfl rfl ?_
      refine j_icmp_gt_n C 4 28 (by omega) (by omega) dX8_countOpen_4 (by decide) (fun _ => ?_) (fun h => absurd h (by omega))
      refine j_iconst C 28 (v := nI 0) dX8_countOpen_28 rfl ?_
      refine j_istore_n C 29 (lv' := [(2, .int (nI (0))), (0, .ref (bd 0)), (1, .int (nI (m)))]) dX8_countOpen_29 rfl (by rw [hn]; decide) rfl ?_
      exact j_lv [0, 1, 2] rfl (rows l.length 0 f g (by omega) (fun j hj => hf j (by omega)) _ rfl)
    | succ q ih =>
      intro i f g hq hf lv hlv
      refine j_lv [0, 1, 2] hlv ?_
      refine j_iload_n C 2 0 dX8_countOpen_2 rfl rfl ?_
      refine j_iload_n C 3 2 dX8_countOpen_3 rfl rfl ?_
      refine j_icmp_gt_n C 4 28 (by omega) (by omega) dX8_countOpen_4 (by decide) (fun h => absurd h (by omega)) (fun _ => ?_)
      refine j_aload_n C 7 1 dX8_countOpen_7 rfl rfl ?_
      refine j_get C 8 (ci := 8) hL rfl 0 (wm_o0 bd c Z (wL2 L f g)) 26 (by decide) f67 rfl (v := .ref (bd 18)) rfl dX8_countOpen_8 ?_
      refine j_iload_n C 11 0 dX8_countOpen_11 rfl rfl ?_
      refine j_iload_n C 12 0 dX8_countOpen_12 rfl rfl ?_
      refine j_if_ne_n C 13 20 (by omega) dX8_countOpen_13 (by decide) (fun h13 => ?_) (fun h13 => ?_)
      · refine j_lconst C 20 (v := lN 0) dX8_countOpen_20 rfl ?_
        refine j_last C 21 18 2 (f := f) (wm_a18 bd c Z (wL2 L f g)) rfl (by omega) (by decide) (wm_s18 bd c Z (wL2 L f g) (vp_updL (f) (i) (lN 0))) dX8_countOpen_21 ?_
        refine j_iinc C 22 0 (v := (nI (i + 1))) (lv' := [(2, .int (nI (i + 1))), (0, .ref (bd 0)), (1, .int (nI (m)))]) dX8_countOpen_22 rfl (nI_add (i) 1) (by rw [hn]; decide) rfl ?_
        refine j_goto C 25 2 dX8_countOpen_25 (by decide) ?_
        refine j_lv [0, 1, 2] rfl (j_ll (wL2_18 L f g _) (ih (i + 1) _ g (by omega) (fun j hj => ?_) _ rfl))
        by_cases e : j = i
        · subst e; rw [vL_same]; unfold g_d0; rw [if_neg h13]
        · rw [vL_ne e]; exact hf j (by omega)
      · refine j_lconst C 16 (v := lN 1) dX8_countOpen_16 rfl ?_
        refine j_goto C 17 21 dX8_countOpen_17 (by decide) ?_
        refine j_last C 21 18 2 (f := f) (wm_a18 bd c Z (wL2 L f g)) rfl (by omega) (by decide) (wm_s18 bd c Z (wL2 L f g) (vp_updL (f) (i) (lN 1))) dX8_countOpen_21 ?_
        refine j_iinc C 22 0 (v := (nI (i + 1))) (lv' := [(2, .int (nI (i + 1))), (0, .ref (bd 0)), (1, .int (nI (m)))]) dX8_countOpen_22 rfl (nI_add (i) 1) (by rw [hn]; decide) rfl ?_
        refine j_goto C 25 2 dX8_countOpen_25 (by decide) ?_
        refine j_lv [0, 1, 2] rfl (j_ll (wL2_18 L f g _) (ih (i + 1) _ g (by omega) (fun j hj => ?_) _ rfl))
        by_cases e : j = i
        · subst e; rw [vL_same]; unfold g_d0; rw [if_pos h13]
        · rw [vL_ne e]; exact hf j (by omega)
  refine j_iconst C 0 (v := nI 0) dX8_countOpen_0 rfl ?_
  refine j_istore_n C 1 (lv' := [(2, .int (nI (0))), (0, .ref (bd 0)), (1, .int (nI (m)))]) dX8_countOpen_1 rfl (by rw [hn]; decide) rfl ?_
  exact j_ll (wL2_id L) (j_lv [0, 1, 2] rfl (fst (m + 1) 0 _ _ (by omega) (fun j hj => by omega) _ rfl))
