/-! contracts: the class, II -/
def k_put (w : List Nat) (x : Int32) : Bool := decide (¬ x < 0 ∧ x < nI 8 ∧ w.length < 40)
def w_put (w : List Nat) (x : Int32) : List Nat := if k_put w x = true then w ++ [cN x] else w
def k_cut (w : List Nat) (x : Int32) : Bool := decide (¬ x < 0 ∧ x ≤ nI w.length)
def w_cut (w : List Nat) (x : Int32) : List Nat := if k_cut w x = true then w.take (cN x) else w
def k_ix (m : Nat) (x : Int32) : Nat := if x < 0 ∨ ¬ x < nI m then 1 else 0
noncomputable def k_read (n : Nat) (τ : Tb) (w : List Nat) (x : Int32) : Nat := if ¬ bT n x then 1 else if g_fo τ (cN x) ≠ 0 then 2 else if ¬ ((g_RD τ (cN x) w).1 = true ∧ (g_RD τ (cN x) w).2.1 = w.length) then 3 else 0
noncomputable def k_count (n : Nat) (τ : Tb) (x y : Int32) : Nat := if ¬ bT n x then 1 else if g_fo τ (cN x) ≠ 0 then 2 else if y < 0 ∨ ¬ y ≤ nI 16 then 3 else 0
noncomputable def k_find (n : Nat) (τ : Tb) (x y : Int32) (l : Int64) : Nat := if k_count n τ x y ≠ 0 then k_count n τ x y else if ¬ lN 0 ≤ l ∨ lN (g_c τ (cN x) (cN x) (cN y)) ≤ l then 4 else 0
noncomputable def w_find (τ : Tb) (x y : Int32) (l : Int64) : List Nat := g_sw τ (cN x) (g_T τ (cN x)) (cN y) [cN x] l.toInt.toNat
theorem g_SD_w {n : Nat} {τ : Tb} {w w' : List Nat} {st : Int32} {tr : List Nat} {ks : List Nat} {Z Z' : ZT} {L L' : LT} (h : g_SD n τ w st tr Z L) (hz : g_fr ks Z Z') (hk : ∀ k, k ∈ [9, 10, 11, 12, 13, 14, 40, 47, 50] → k ∉ ks) (hL : L' 27 = L 27) (hw : g_WD w' (Z' 42 0) (Z' 22)) : g_SD n τ w' st tr Z' L' := by
  obtain ⟨h1, h2, h3, h4, h5, h6, h7, h8⟩ := h
  refine ⟨h1, g_ED_fr hz (fun k q => hk k (by revert q; simp; omega)) h2, ?_, hw, ?_, ?_, ?_, h8⟩
  · rw [hz 40 (hk 40 (by decide))]; exact h3
  · rw [hz 50 (hk 50 (by decide))]; exact h5
  · rw [hz 47 (hk 47 (by decide))]; exact h6
  · rw [hL]; exact h7
theorem g_WD_take {w : List Nat} {s : Int32} {f : Nat → Int32} (h : g_WD w s f) (a : Nat) (ha : a ≤ w.length) : g_WD (w.take a) (nI a) f := by
  refine ⟨by rw [List.length_take]; have := h.1; omega, by rw [List.length_take, Nat.min_eq_left ha], g_ar_take h.2.2.1 a, fun u hu => h.2.2.2 u (List.mem_of_mem_take hu)⟩
theorem e_in {x : Int32} {m : Nat} (hm : m < 2 ^ 31) (h1 : ¬ x < 0) (h2 : x < nI m) : ∃ t, t < m ∧ x = nI t := by
  rcases pk_ix x (n := m) hm with h | h | h
  · exact absurd h h1
  · exact absurd h2 (Int32.not_lt.mpr h)
  · exact h
theorem e_in2 {x : Int32} {m : Nat} (hm : m + 1 < 2 ^ 31) (h1 : ¬ x < 0) (h2 : x ≤ nI m) : ∃ t, t ≤ m ∧ x = nI t := by
  rcases pk_ix x (n := m + 1) hm with h | h | ⟨t, ht, e⟩
  · exact absurd h h1
  · have := Int32.le_iff_toInt_le.mp h
    have := Int32.le_iff_toInt_le.mp h2
    rw [nI_toInt (by omega)] at *
    omega
  · exact ⟨t, by omega, e⟩
set_option maxHeartbeats 4000000 in
set_option maxRecDepth 100000 in
theorem c_X7_put (ll : Launch) (D : va_G) (ad ro : Nat → Nat) (c : Nat → ClassId) (Z : ZT) (L : LT) {n : Nat} {τ : Tb} {w : List Nat} {st : Int32} {tr : List Nat} (x : Int32) (hSD : g_SD n τ w st tr Z L) : cI (S := ZT × LT) ll yX7_put vsX7_put ({ frames := 1, cells := 0, slots := 0, locals := 21 } : Room) D (tysG c) [.ref (ad 0), .int (x)] (wd ad ro c Z L) (fun u => wd ad ro c u.1 u.2) (fun r u => r = b2 (k_put w x) ∧ g_SD n τ (w_put w x) st tr u.1 u.2) 0 0 := by
  refine cI_start (cc := cX7_put) (maxL := 2) RX7 rfl (by decide +kernel) rfl (Nat.le_of_ble_eq_true rfl) ?_
  intro κ hlκ C hr _ E hR hn
  subst hlκ
  have hL : ∀ w ∈ u_ws RX7 TX7 7, w.before (ja κ) (js κ) = true := fun w h => C.t w (mX7_put_wsX70 w h)
  have f28 : (Cond.fieldLink RX7 28 "GuardedGrammar" (TX7 2).2.1 (TX7 2).2.2.1).before (ja κ) (js κ) = true := C.t (.fieldLink RX7 28 "GuardedGrammar" "word" "LGuardedGrammar$Word;") (mX7_put_o _ (by decide +kernel))
  show J D κ 0 0 0 [(0, .ref (ad 0)), (1, .int (x))] [] (wd ad ro c Z L)
  obtain ⟨hwf, hE, hz, hwd, h50, h47, htr, htl⟩ := id hSD
  refine j_iload_n C 0 1 dX7_put_0 rfl rfl ?_
  refine j_if_lt C 1 20 dX7_put_1 (by decide) (fun h1 => ?_) (fun h1 => ?_)
  · refine j_iconst C 20 (v := nI 0) dX7_put_20 rfl ?_
    exact j_ireti C hr E (Nat.le_refl _) (Nat.le_refl _) (by decide) (Z, L) (by have hk : k_put w x = false := decide_eq_false (fun z => z.1 h1); rw [hk]; exact ⟨rfl, by unfold w_put; rw [hk]; exact hSD⟩) rfl dX7_put_21
  · refine j_iload_n C 4 1 dX7_put_4 rfl rfl ?_
    refine j_bipush C 5 (v := nI 8) dX7_put_5 rfl ?_
    refine j_icmp_ge C 7 20 dX7_put_7 (by decide) (fun h7 => ?_) (fun h7 => ?_)
    · refine j_iconst C 20 (v := nI 0) dX7_put_20 rfl ?_
      exact j_ireti C hr E (Nat.le_refl _) (Nat.le_refl _) (by decide) (Z, L) (by have hk : k_put w x = false := decide_eq_false (fun z => absurd z.2.1 (Int32.not_lt.mpr h7)); rw [hk]; exact ⟨rfl, by unfold w_put; rw [hk]; exact hSD⟩) rfl dX7_put_21
    · refine j_aload_n C 10 0 dX7_put_10 rfl rfl ?_
      refine j_get C 11 (ci := 7) hL rfl 0 (wd_o0 ad ro c Z L) 2 (by decide) f28 rfl (v := .ref (ad 3)) rfl dX7_put_11 ?_
      refine j_callI (mc := 0) (ms := 0) C 14 (c_X6_isFull (jl κ) D ad ro c Z L ) gX7_put_X6_isFull rfl rfl rfl hd_X6_isFull (by rw [hR]; exact ⟨Nat.le_of_ble_eq_true rfl, Nat.le_of_ble_eq_true rfl⟩) (ci := 6) rfl 3 (wd_o3 ad ro c Z L) rfl (Nat.le_of_ble_eq_true rfl) ⟨Nat.zero_le _, Nat.zero_le _⟩ dX7_put_14 (fun r14 _ e14 => ?_)
      refine j_eqi (y := b2 (decide (¬ nI w.length < nI 40))) (e14.trans (by rw [show Z 42 0 = nI w.length from hwd.2.1])) ?_
      refine j_if_eq_b C 17 22 dX7_put_17 (by decide) (fun h17 => ?_) (fun h17 => ?_)
      · have h40 : w.length < 40 := by have q := of_decide_eq_false h17; have h40b := hwd.1; rw [nI_ltI (by omega) (by decide)] at q; omega
        have hk : k_put w x = true := decide_eq_true ⟨h1, Int32.not_le.mp h7, h40⟩
        obtain ⟨t, ht, rfl⟩ := e_in (by decide) h1 (Int32.not_le.mp h7)
        have hct : cN (nI t) = t := nI_clamp (by omega)
        refine j_aload_n C 22 0 dX7_put_22 rfl rfl ?_
        refine j_get C 23 (ci := 7) hL rfl 0 (wd_o0 ad ro c Z L) 2 (by decide) f28 rfl (v := .ref (ad 3)) rfl dX7_put_23 ?_
        refine j_iload_n C 26 1 dX7_put_26 rfl rfl ?_
        refine j_callV (mc := 0) (ms := 0) C 27 (c_X6_add (jl κ) D ad ro c Z L (nI t) w.length hwd.2.1 h40) gX7_put_X6_add rfl rfl rfl hd_X6_add (by rw [hR]; exact ⟨Nat.le_of_ble_eq_true rfl, Nat.le_of_ble_eq_true rfl⟩) (ci := 6) rfl 3 (wd_o3 ad ro c Z L) rfl (Nat.le_of_ble_eq_true rfl) ⟨Nat.zero_le _, Nat.zero_le _⟩ dX7_put_27 (fun _ _ => ?_)
        refine j_iconst C 30 (v := nI 1) dX7_put_30 rfl ?_
        exact j_ireti C hr E (Nat.le_refl _) (Nat.le_refl _) (by decide) ((upR (upR Z 22 (upd (Z 22) w.length (nI t))) 42 (fun _ => nI (w.length + 1))), L) ⟨by rw [hk]; rfl, by unfold w_put; rw [if_pos hk, hct]; exact g_SD_w (ks := [22, 42]) hSD (g_fr_up (g_fr_up g_fr_rfl (by decide) _) (by decide) _) (by decide) rfl (g_WD_push hwd h40 ht)⟩ rfl dX7_put_31
      · refine j_iconst C 20 (v := nI 0) dX7_put_20 rfl ?_
        exact j_ireti C hr E (Nat.le_refl _) (Nat.le_refl _) (by decide) (Z, L) (by have hk : k_put w x = false := decide_eq_false (fun z => by have q := of_decide_eq_true h17; have h40b := hwd.1; rw [nI_ltI (by omega) (by decide)] at q; exact q z.2.2); rw [hk]; exact ⟨rfl, by unfold w_put; rw [hk]; exact hSD⟩) rfl dX7_put_21
set_option maxHeartbeats 4000000 in
set_option maxRecDepth 100000 in
theorem c_X7_cut (ll : Launch) (D : va_G) (ad ro : Nat → Nat) (c : Nat → ClassId) (Z : ZT) (L : LT) {n : Nat} {τ : Tb} {w : List Nat} {st : Int32} {tr : List Nat} (x : Int32) (hSD : g_SD n τ w st tr Z L) : cI (S := ZT × LT) ll yX7_cut vsX7_cut ({ frames := 1, cells := 0, slots := 0, locals := 21 } : Room) D (tysG c) [.ref (ad 0), .int (x)] (wd ad ro c Z L) (fun u => wd ad ro c u.1 u.2) (fun r u => r = b2 (k_cut w x) ∧ g_SD n τ (w_cut w x) st tr u.1 u.2) 0 0 := by
  refine cI_start (cc := cX7_cut) (maxL := 2) RX7 rfl (by decide +kernel) rfl (Nat.le_of_ble_eq_true rfl) ?_
  intro κ hlκ C hr _ E hR hn
  subst hlκ
  have hL : ∀ w ∈ u_ws RX7 TX7 7, w.before (ja κ) (js κ) = true := fun w h => C.t w (mX7_cut_wsX70 w h)
  have f28 : (Cond.fieldLink RX7 28 "GuardedGrammar" (TX7 2).2.1 (TX7 2).2.2.1).before (ja κ) (js κ) = true := C.t (.fieldLink RX7 28 "GuardedGrammar" "word" "LGuardedGrammar$Word;") (mX7_cut_o _ (by decide +kernel))
  show J D κ 0 0 0 [(0, .ref (ad 0)), (1, .int (x))] [] (wd ad ro c Z L)
  obtain ⟨hwf, hE, hz, hwd, h50, h47, htr, htl⟩ := id hSD
  refine j_iload_n C 0 1 dX7_cut_0 rfl rfl ?_
  refine j_if_lt C 1 15 dX7_cut_1 (by decide) (fun h1 => ?_) (fun h1 => ?_)
  · refine j_iconst C 15 (v := nI 0) dX7_cut_15 rfl ?_
    exact j_ireti C hr E (Nat.le_refl _) (Nat.le_refl _) (by decide) (Z, L) (by have hk : k_cut w x = false := decide_eq_false (fun z => z.1 h1); rw [hk]; exact ⟨rfl, by unfold w_cut; rw [hk]; exact hSD⟩) rfl dX7_cut_16
  · refine j_iload_n C 4 1 dX7_cut_4 rfl rfl ?_
    refine j_aload_n C 5 0 dX7_cut_5 rfl rfl ?_
    refine j_get C 6 (ci := 7) hL rfl 0 (wd_o0 ad ro c Z L) 2 (by decide) f28 rfl (v := .ref (ad 3)) rfl dX7_cut_6 ?_
    refine j_callI (mc := 0) (ms := 0) C 9 (c_X6_size (jl κ) D ad ro c Z L ) gX7_cut_X6_size rfl rfl rfl hd_X6_size (by rw [hR]; exact ⟨Nat.le_of_ble_eq_true rfl, Nat.le_of_ble_eq_true rfl⟩) (ci := 6) rfl 3 (wd_o3 ad ro c Z L) rfl (Nat.le_of_ble_eq_true rfl) ⟨Nat.zero_le _, Nat.zero_le _⟩ dX7_cut_9 (fun r9 _ e9 => ?_)
    refine j_eqi (y := nI (w.length)) (e9.trans hwd.2.1) ?_
    refine j_icmp_le C 12 17 dX7_cut_12 (by decide) (fun h12 => ?_) (fun h12 => ?_)
    · have hk : k_cut w x = true := decide_eq_true ⟨h1, h12⟩
      obtain ⟨t, ht, rfl⟩ := e_in2 (by have := hwd.1; omega) h1 h12
      have hct : cN (nI t) = t := nI_clamp (by have := hwd.1; omega)
      refine j_aload_n C 17 0 dX7_cut_17 rfl rfl ?_
      refine j_get C 18 (ci := 7) hL rfl 0 (wd_o0 ad ro c Z L) 2 (by decide) f28 rfl (v := .ref (ad 3)) rfl dX7_cut_18 ?_
      refine j_iload_n C 21 1 dX7_cut_21 rfl rfl ?_
      refine j_callV (mc := 0) (ms := 0) C 22 (c_X6_keep (jl κ) D ad ro c Z L (nI (t))) gX7_cut_X6_keep rfl rfl rfl hd_X6_keep (by rw [hR]; exact ⟨Nat.le_of_ble_eq_true rfl, Nat.le_of_ble_eq_true rfl⟩) (ci := 6) rfl 3 (wd_o3 ad ro c Z L) rfl (Nat.le_of_ble_eq_true rfl) ⟨Nat.zero_le _, Nat.zero_le _⟩ dX7_cut_22 (fun _ _ => ?_)
      refine j_iconst C 25 (v := nI 1) dX7_cut_25 rfl ?_
      exact j_ireti C hr E (Nat.le_refl _) (Nat.le_refl _) (by decide) ((upR Z 42 (fun _ => nI (t))), L) ⟨by rw [hk]; rfl, by unfold w_cut; rw [if_pos hk, hct]; exact g_SD_w (ks := [42]) hSD (g_fr_up g_fr_rfl (by decide) _) (by decide) rfl (g_WD_take hwd t ht)⟩ rfl dX7_cut_26
    · refine j_iconst C 15 (v := nI 0) dX7_cut_15 rfl ?_
      exact j_ireti C hr E (Nat.le_refl _) (Nat.le_refl _) (by decide) (Z, L) (by have hk : k_cut w x = false := decide_eq_false (fun z => h12 z.2); rw [hk]; exact ⟨rfl, by unfold w_cut; rw [hk]; exact hSD⟩) rfl dX7_cut_16
set_option maxHeartbeats 4000000 in
set_option maxRecDepth 100000 in
theorem c_X7_length (ll : Launch) (D : va_G) (ad ro : Nat → Nat) (c : Nat → ClassId) (Z : ZT) (L : LT) {n : Nat} {τ : Tb} {w : List Nat} {st : Int32} {tr : List Nat} (hSD : g_SD n τ w st tr Z L) : cI (S := Unit) ll yX7_length vsX7_length ({ frames := 1, cells := 0, slots := 0, locals := 20 } : Room) D (tysG c) [.ref (ad 0)] (wd ad ro c Z L) (fun _ => wd ad ro c Z L) (fun r _ => r = nI w.length) 0 0 := by
  refine cI_start (cc := cX7_length) (maxL := 1) RX7 rfl (by decide +kernel) rfl (Nat.le_of_ble_eq_true rfl) ?_
  intro κ hlκ C hr _ E hR hn
  subst hlκ
  have hL : ∀ w ∈ u_ws RX7 TX7 7, w.before (ja κ) (js κ) = true := fun w h => C.t w (mX7_length_wsX70 w h)
  have f28 : (Cond.fieldLink RX7 28 "GuardedGrammar" (TX7 2).2.1 (TX7 2).2.2.1).before (ja κ) (js κ) = true := C.t (.fieldLink RX7 28 "GuardedGrammar" "word" "LGuardedGrammar$Word;") (mX7_length_o _ (by decide +kernel))
  show J D κ 0 0 0 [(0, .ref (ad 0))] [] (wd ad ro c Z L)
  obtain ⟨hwf, hE, hz, hwd, h50, h47, htr, htl⟩ := id hSD
  refine j_aload_n C 0 0 dX7_length_0 rfl rfl ?_
  refine j_get C 1 (ci := 7) hL rfl 0 (wd_o0 ad ro c Z L) 2 (by decide) f28 rfl (v := .ref (ad 3)) rfl dX7_length_1 ?_
  refine j_callI (mc := 0) (ms := 0) C 4 (c_X6_size (jl κ) D ad ro c Z L ) gX7_length_X6_size rfl rfl rfl hd_X6_size (by rw [hR]; exact ⟨Nat.le_of_ble_eq_true rfl, Nat.le_of_ble_eq_true rfl⟩) (ci := 6) rfl 3 (wd_o3 ad ro c Z L) rfl (Nat.le_of_ble_eq_true rfl) ⟨Nat.zero_le _, Nat.zero_le _⟩ dX7_length_4 (fun r4 _ e4 => ?_)
  refine j_eqi (y := nI (w.length)) (e4.trans hwd.2.1) ?_
  exact j_ireti C hr E (Nat.le_refl _) (Nat.le_refl _) rfl () rfl rfl dX7_length_7
set_option maxHeartbeats 4000000 in
set_option maxRecDepth 100000 in
theorem c_X7_letter (ll : Launch) (hst : ll.stackTraces = false) (D : va_G) (ad ro : Nat → Nat) (c : Nat → ClassId) (Z : ZT) (L : LT) {n : Nat} {τ : Tb} {w : List Nat} {st : Int32} {tr : List Nat} (x : Int32) (hSD : g_SD n τ w st tr Z L) : cXI (S := ZT × LT) (SX := ZT × LT) ll yX7_letter vsX7_letter ({ frames := 6, cells := 1, slots := 6, locals := 85 } : Room) D (tysG c) [.ref (ad 0), .int (x)] (wd ad ro c Z L) (fun u => wd ad ro c u.1 u.2) (fun r u => k_ix w.length x = 0 ∧ r = nI (g_nx w (cN x)) ∧ g_SD n τ w st tr u.1 u.2) (fun u => wd ad ro c u.1 u.2) (fun E u => xk ["java/lang/IndexOutOfBoundsException"] (k_ix w.length x) E ∧ g_SD n τ w st tr u.1 u.2) 1 6 := by
  refine cXI_start (cc := cX7_letter) (maxL := 2) RX7 rfl (by decide +kernel) rfl (Nat.le_of_ble_eq_true rfl) hst ?_
  intro κ hlκ X hr E hR hn
  subst hlκ
  have C := X.1
  have hL : ∀ w ∈ u_ws RX7 TX7 7, w.before (ja κ) (js κ) = true := fun w h => C.t w (mX7_letter_wsX70 w h)
  have f28 : (Cond.fieldLink RX7 28 "GuardedGrammar" (TX7 2).2.1 (TX7 2).2.2.1).before (ja κ) (js κ) = true := C.t (.fieldLink RX7 28 "GuardedGrammar" "word" "LGuardedGrammar$Word;") (mX7_letter_o _ (by decide +kernel))
  show J D κ 0 0 0 [(0, .ref (ad 0)), (1, .int (x))] [] (wd ad ro c Z L)
  obtain ⟨hwf, hE, hz, hwd, h50, h47, htr, htl⟩ := id hSD
  refine j_iload_n C 0 1 dX7_letter_0 rfl rfl ?_
  refine j_if_lt C 1 15 dX7_letter_1 (by decide) (fun h1 => ?_) (fun h1 => ?_)
  · exact j_throw0 X 15 E (ik := 105) (ic := 107) (cls := "java/lang/IndexOutOfBoundsException") ix_IOB fx_IOB (C.t (.classLink RX7 105 "java/lang/IndexOutOfBoundsException") (mX7_letter_o _ (by decide +kernel))) (C.t (.initialized "java/lang/IndexOutOfBoundsException") (mX7_letter_o _ (by decide +kernel))) mX7_letter_t107 ng_IOB gx_IOB dX7_letter_15 dX7_letter_18 dX7_letter_19 dX7_letter_22 (by rw [hR]; exact ⟨Nat.le_of_ble_eq_true rfl, Nat.le_of_ble_eq_true rfl⟩) (by rw [hR]; exact ⟨Nat.le_of_ble_eq_true rfl, Nat.le_of_ble_eq_true rfl⟩) (Nat.le_of_ble_eq_true rfl) (Nat.le_of_ble_eq_true rfl) (Z, L) ⟨⟨0, rfl, by unfold k_ix; rw [if_pos (Or.inl h1)]⟩, hSD⟩ rfl
  · refine j_iload_n C 4 1 dX7_letter_4 rfl rfl ?_
    refine j_aload_n C 5 0 dX7_letter_5 rfl rfl ?_
    refine j_get C 6 (ci := 7) hL rfl 0 (wd_o0 ad ro c Z L) 2 (by decide) f28 rfl (v := .ref (ad 3)) rfl dX7_letter_6 ?_
    refine j_callI (mc := 0) (ms := 0) C 9 (c_X6_size (jl κ) D ad ro c Z L ) gX7_letter_X6_size rfl rfl rfl hd_X6_size (by rw [hR]; exact ⟨Nat.le_of_ble_eq_true rfl, Nat.le_of_ble_eq_true rfl⟩) (ci := 6) rfl 3 (wd_o3 ad ro c Z L) rfl (Nat.le_of_ble_eq_true rfl) (by rw [hR]; exact ⟨Nat.le_of_ble_eq_true rfl, Nat.le_of_ble_eq_true rfl⟩) dX7_letter_9 (fun r9 _ e9 => ?_)
    refine j_eqi (y := nI (w.length)) (e9.trans hwd.2.1) ?_
    refine j_icmp_lt C 12 23 dX7_letter_12 (by decide) (fun h12 => ?_) (fun h12 => ?_)
    · have hk : k_ix w.length x = 0 := if_neg (fun z => z.elim h1 (fun z => z h12))
      obtain ⟨t, ht, rfl⟩ := e_in (by have := hwd.1; omega) h1 h12
      have hct : cN (nI t) = t := nI_clamp (by have := hwd.1; omega)
      refine j_aload_n C 23 0 dX7_letter_23 rfl rfl ?_
      refine j_get C 24 (ci := 7) hL rfl 0 (wd_o0 ad ro c Z L) 2 (by decide) f28 rfl (v := .ref (ad 3)) rfl dX7_letter_24 ?_
      refine j_iload_n C 27 1 dX7_letter_27 rfl rfl ?_
      refine j_callI (mc := 0) (ms := 0) C 28 (c_X6_at (jl κ) D ad ro c Z L (t) (by have := hwd.1; omega)) gX7_letter_X6_at rfl rfl rfl hd_X6_at (by rw [hR]; exact ⟨Nat.le_of_ble_eq_true rfl, Nat.le_of_ble_eq_true rfl⟩) (ci := 6) rfl 3 (wd_o3 ad ro c Z L) rfl (Nat.le_of_ble_eq_true rfl) (by rw [hR]; exact ⟨Nat.le_of_ble_eq_true rfl, Nat.le_of_ble_eq_true rfl⟩) dX7_letter_28 (fun r28 _ e28 => ?_)
      refine j_eqi (y := nI (g_nx w t)) (e28.trans (g_WD_at hwd ht).1) ?_
      exact j_xireti C hr E (Nat.le_of_ble_eq_true rfl) (Nat.le_of_ble_eq_true rfl) rfl (Z, L) ⟨hk, by rw [hct], hSD⟩ rfl dX7_letter_31
    · exact j_throw0 X 15 E (ik := 105) (ic := 107) (cls := "java/lang/IndexOutOfBoundsException") ix_IOB fx_IOB (C.t (.classLink RX7 105 "java/lang/IndexOutOfBoundsException") (mX7_letter_o _ (by decide +kernel))) (C.t (.initialized "java/lang/IndexOutOfBoundsException") (mX7_letter_o _ (by decide +kernel))) mX7_letter_t107 ng_IOB gx_IOB dX7_letter_15 dX7_letter_18 dX7_letter_19 dX7_letter_22 (by rw [hR]; exact ⟨Nat.le_of_ble_eq_true rfl, Nat.le_of_ble_eq_true rfl⟩) (by rw [hR]; exact ⟨Nat.le_of_ble_eq_true rfl, Nat.le_of_ble_eq_true rfl⟩) (Nat.le_of_ble_eq_true rfl) (Nat.le_of_ble_eq_true rfl) (Z, L) ⟨⟨0, rfl, by unfold k_ix; rw [if_pos (Or.inr h12)]⟩, hSD⟩ rfl
set_option maxHeartbeats 4000000 in
set_option maxRecDepth 100000 in
theorem c_X7_stopped (ll : Launch) (D : va_G) (ad ro : Nat → Nat) (c : Nat → ClassId) (Z : ZT) (L : LT) {n : Nat} {τ : Tb} {w : List Nat} {st : Int32} {tr : List Nat} (hSD : g_SD n τ w st tr Z L) : cI (S := Unit) ll yX7_stopped vsX7_stopped ({ frames := 0, cells := 0, slots := 0, locals := 0 } : Room) D (tysG c) [.ref (ad 0)] (wd ad ro c Z L) (fun _ => wd ad ro c Z L) (fun r _ => r = st) 0 0 := by
  refine cI_start (cc := cX7_stopped) (maxL := 1) RX7 rfl (by decide +kernel) rfl (Nat.le_of_ble_eq_true rfl) ?_
  intro κ hlκ C hr _ E hR hn
  subst hlκ
  have hL : ∀ w ∈ u_ws RX7 TX7 7, w.before (ja κ) (js κ) = true := fun w h => C.t w (mX7_stopped_wsX70 w h)
  have f57 : (Cond.fieldLink RX7 57 "GuardedGrammar" (TX7 6).2.1 (TX7 6).2.2.1).before (ja κ) (js κ) = true := C.t (.fieldLink RX7 57 "GuardedGrammar" "stopped" "I") (mX7_stopped_o _ (by decide +kernel))
  show J D κ 0 0 0 [(0, .ref (ad 0))] [] (wd ad ro c Z L)
  obtain ⟨hwf, hE, hz, hwd, h50, h47, htr, htl⟩ := id hSD
  refine j_aload_n C 0 0 dX7_stopped_0 rfl rfl ?_
  refine j_get C 1 (ci := 7) hL rfl 0 (wd_o0 ad ro c Z L) 6 (by decide) f57 rfl (v := .int (Z 50 0)) rfl dX7_stopped_1 ?_
  exact j_ireti C hr E (Nat.le_refl _) (Nat.le_refl _) rfl () h50 rfl dX7_stopped_4
set_option maxHeartbeats 4000000 in
set_option maxRecDepth 100000 in
theorem c_X7_trace (ll : Launch) (D : va_G) (ad ro : Nat → Nat) (c : Nat → ClassId) (Z : ZT) (L : LT) {n : Nat} {τ : Tb} {w : List Nat} {st : Int32} {tr : List Nat} (hSD : g_SD n τ w st tr Z L) : cI (S := Unit) ll yX7_trace vsX7_trace ({ frames := 1, cells := 0, slots := 0, locals := 20 } : Room) D (tysG c) [.ref (ad 0)] (wd ad ro c Z L) (fun _ => wd ad ro c Z L) (fun r _ => r = nI tr.length) 0 0 := by
  refine cI_start (cc := cX7_trace) (maxL := 1) RX7 rfl (by decide +kernel) rfl (Nat.le_of_ble_eq_true rfl) ?_
  intro κ hlκ C hr _ E hR hn
  subst hlκ
  have hL : ∀ w ∈ u_ws RX7 TX7 7, w.before (ja κ) (js κ) = true := fun w h => C.t w (mX7_trace_wsX70 w h)
  have f37 : (Cond.fieldLink RX7 37 "GuardedGrammar" (TX7 3).2.1 (TX7 3).2.2.1).before (ja κ) (js κ) = true := C.t (.fieldLink RX7 37 "GuardedGrammar" "reader" "LGuardedGrammar$Reader;") (mX7_trace_o _ (by decide +kernel))
  show J D κ 0 0 0 [(0, .ref (ad 0))] [] (wd ad ro c Z L)
  obtain ⟨hwf, hE, hz, hwd, h50, h47, htr, htl⟩ := id hSD
  refine j_aload_n C 0 0 dX7_trace_0 rfl rfl ?_
  refine j_get C 1 (ci := 7) hL rfl 0 (wd_o0 ad ro c Z L) 3 (by decide) f37 rfl (v := .ref (ad 4)) rfl dX7_trace_1 ?_
  refine j_callR (mc := 0) (ms := 0) C 4 (c_X0_kept (jl κ) D ad ro c Z L) gX7_trace_X0_kept rfl rfl rfl hd_X0_kept (by rw [hR]; exact ⟨Nat.le_of_ble_eq_true rfl, Nat.le_of_ble_eq_true rfl⟩) (ci := 0) rfl 4 (wd_o4 ad ro c Z L) rfl (Nat.le_of_ble_eq_true rfl) ⟨Nat.zero_le _, Nat.zero_le _⟩ dX7_trace_4 (fun r4 _ e4 => ?_)
  subst e4
  refine j_callI (mc := 0) (ms := 0) C 7 (c_X2_size (jl κ) D ad ro c Z L ) gX7_trace_X2_size rfl rfl rfl hd_X2_size (by rw [hR]; exact ⟨Nat.le_of_ble_eq_true rfl, Nat.le_of_ble_eq_true rfl⟩) (ci := 2) rfl 6 (wd_o6 ad ro c Z L) rfl (Nat.le_of_ble_eq_true rfl) ⟨Nat.zero_le _, Nat.zero_le _⟩ dX7_trace_7 (fun r7 _ e7 => ?_)
  refine j_eqi (y := nI (tr.length)) (e7.trans h47) ?_
  exact j_ireti C hr E (Nat.le_refl _) (Nat.le_refl _) rfl () rfl rfl dX7_trace_10
set_option maxHeartbeats 4000000 in
set_option maxRecDepth 100000 in
theorem c_X7_step (ll : Launch) (hst : ll.stackTraces = false) (D : va_G) (ad ro : Nat → Nat) (c : Nat → ClassId) (Z : ZT) (L : LT) {n : Nat} {τ : Tb} {w : List Nat} {st : Int32} {tr : List Nat} (x : Int32) (hSD : g_SD n τ w st tr Z L) : cXI (S := ZT × LT) (SX := ZT × LT) ll yX7_step vsX7_step ({ frames := 6, cells := 1, slots := 6, locals := 85 } : Room) D (tysG c) [.ref (ad 0), .int (x)] (wd ad ro c Z L) (fun u => wd ad ro c u.1 u.2) (fun r u => k_ix tr.length x = 0 ∧ r = nI (tr.getD (cN x) 0) ∧ g_SD n τ w st tr u.1 u.2) (fun u => wd ad ro c u.1 u.2) (fun E u => xk ["java/lang/IndexOutOfBoundsException"] (k_ix tr.length x) E ∧ g_SD n τ w st tr u.1 u.2) 1 6 := by
  refine cXI_start (cc := cX7_step) (maxL := 2) RX7 rfl (by decide +kernel) rfl (Nat.le_of_ble_eq_true rfl) hst ?_
  intro κ hlκ X hr E hR hn
  subst hlκ
  have C := X.1
  have hL : ∀ w ∈ u_ws RX7 TX7 7, w.before (ja κ) (js κ) = true := fun w h => C.t w (mX7_step_wsX70 w h)
  have f37 : (Cond.fieldLink RX7 37 "GuardedGrammar" (TX7 3).2.1 (TX7 3).2.2.1).before (ja κ) (js κ) = true := C.t (.fieldLink RX7 37 "GuardedGrammar" "reader" "LGuardedGrammar$Reader;") (mX7_step_o _ (by decide +kernel))
  show J D κ 0 0 0 [(0, .ref (ad 0)), (1, .int (x))] [] (wd ad ro c Z L)
  obtain ⟨hwf, hE, hz, hwd, h50, h47, htr, htl⟩ := id hSD
  refine j_iload_n C 0 1 dX7_step_0 rfl rfl ?_
  refine j_if_lt C 1 18 dX7_step_1 (by decide) (fun h1 => ?_) (fun h1 => ?_)
  · exact j_throw0 X 18 E (ik := 105) (ic := 107) (cls := "java/lang/IndexOutOfBoundsException") ix_IOB fx_IOB (C.t (.classLink RX7 105 "java/lang/IndexOutOfBoundsException") (mX7_step_o _ (by decide +kernel))) (C.t (.initialized "java/lang/IndexOutOfBoundsException") (mX7_step_o _ (by decide +kernel))) mX7_step_t107 ng_IOB gx_IOB dX7_step_18 dX7_step_21 dX7_step_22 dX7_step_25 (by rw [hR]; exact ⟨Nat.le_of_ble_eq_true rfl, Nat.le_of_ble_eq_true rfl⟩) (by rw [hR]; exact ⟨Nat.le_of_ble_eq_true rfl, Nat.le_of_ble_eq_true rfl⟩) (Nat.le_of_ble_eq_true rfl) (Nat.le_of_ble_eq_true rfl) (Z, L) ⟨⟨0, rfl, by unfold k_ix; rw [if_pos (Or.inl h1)]⟩, hSD⟩ rfl
  · refine j_iload_n C 4 1 dX7_step_4 rfl rfl ?_
    refine j_aload_n C 5 0 dX7_step_5 rfl rfl ?_
    refine j_get C 6 (ci := 7) hL rfl 0 (wd_o0 ad ro c Z L) 3 (by decide) f37 rfl (v := .ref (ad 4)) rfl dX7_step_6 ?_
    refine j_callR (mc := 0) (ms := 0) C 9 (c_X0_kept (jl κ) D ad ro c Z L) gX7_step_X0_kept rfl rfl rfl hd_X0_kept (by rw [hR]; exact ⟨Nat.le_of_ble_eq_true rfl, Nat.le_of_ble_eq_true rfl⟩) (ci := 0) rfl 4 (wd_o4 ad ro c Z L) rfl (Nat.le_of_ble_eq_true rfl) (by rw [hR]; exact ⟨Nat.le_of_ble_eq_true rfl, Nat.le_of_ble_eq_true rfl⟩) dX7_step_9 (fun r9 _ e9 => ?_)
    subst e9
    refine j_callI (mc := 0) (ms := 0) C 12 (c_X2_size (jl κ) D ad ro c Z L ) gX7_step_X2_size rfl rfl rfl hd_X2_size (by rw [hR]; exact ⟨Nat.le_of_ble_eq_true rfl, Nat.le_of_ble_eq_true rfl⟩) (ci := 2) rfl 6 (wd_o6 ad ro c Z L) rfl (Nat.le_of_ble_eq_true rfl) (by rw [hR]; exact ⟨Nat.le_of_ble_eq_true rfl, Nat.le_of_ble_eq_true rfl⟩) dX7_step_12 (fun r12 _ e12 => ?_)
    refine j_eqi (y := nI (tr.length)) (e12.trans h47) ?_
    refine j_icmp_lt C 15 26 dX7_step_15 (by decide) (fun h15 => ?_) (fun h15 => ?_)
    · have hk : k_ix tr.length x = 0 := if_neg (fun z => z.elim h1 (fun z => z h15))
      obtain ⟨t, ht, rfl⟩ := e_in (by omega) h1 h15
      have hct : cN (nI t) = t := nI_clamp (by omega)
      refine j_aload_n C 26 0 dX7_step_26 rfl rfl ?_
      refine j_get C 27 (ci := 7) hL rfl 0 (wd_o0 ad ro c Z L) 3 (by decide) f37 rfl (v := .ref (ad 4)) rfl dX7_step_27 ?_
      refine j_callR (mc := 0) (ms := 0) C 30 (c_X0_kept (jl κ) D ad ro c Z L) gX7_step_X0_kept rfl rfl rfl hd_X0_kept (by rw [hR]; exact ⟨Nat.le_of_ble_eq_true rfl, Nat.le_of_ble_eq_true rfl⟩) (ci := 0) rfl 4 (wd_o4 ad ro c Z L) rfl (Nat.le_of_ble_eq_true rfl) (by rw [hR]; exact ⟨Nat.le_of_ble_eq_true rfl, Nat.le_of_ble_eq_true rfl⟩) dX7_step_30 (fun r30 _ e30 => ?_)
      subst e30
      refine j_iload_n C 33 1 dX7_step_33 rfl rfl ?_
      refine j_callI (mc := 0) (ms := 0) C 34 (c_X2_at (jl κ) D ad ro c Z L (t) (by omega)) gX7_step_X2_at rfl rfl rfl hd_X2_at (by rw [hR]; exact ⟨Nat.le_of_ble_eq_true rfl, Nat.le_of_ble_eq_true rfl⟩) (ci := 2) rfl 6 (wd_o6 ad ro c Z L) rfl (Nat.le_of_ble_eq_true rfl) (by rw [hR]; exact ⟨Nat.le_of_ble_eq_true rfl, Nat.le_of_ble_eq_true rfl⟩) dX7_step_34 (fun r34 _ e34 => ?_)
      refine j_eqi (y := nI (tr.getD t 0)) (e34.trans (congrArg nI (by rw [show tr.getD t 0 = tr[t] by simp [ht]]; exact (htr t ht).symm))) ?_
      exact j_xireti C hr E (Nat.le_of_ble_eq_true rfl) (Nat.le_of_ble_eq_true rfl) rfl (Z, L) ⟨hk, by rw [hct], hSD⟩ rfl dX7_step_37
    · exact j_throw0 X 18 E (ik := 105) (ic := 107) (cls := "java/lang/IndexOutOfBoundsException") ix_IOB fx_IOB (C.t (.classLink RX7 105 "java/lang/IndexOutOfBoundsException") (mX7_step_o _ (by decide +kernel))) (C.t (.initialized "java/lang/IndexOutOfBoundsException") (mX7_step_o _ (by decide +kernel))) mX7_step_t107 ng_IOB gx_IOB dX7_step_18 dX7_step_21 dX7_step_22 dX7_step_25 (by rw [hR]; exact ⟨Nat.le_of_ble_eq_true rfl, Nat.le_of_ble_eq_true rfl⟩) (by rw [hR]; exact ⟨Nat.le_of_ble_eq_true rfl, Nat.le_of_ble_eq_true rfl⟩) (Nat.le_of_ble_eq_true rfl) (Nat.le_of_ble_eq_true rfl) (Z, L) ⟨⟨0, rfl, by unfold k_ix; rw [if_pos (Or.inr h15)]⟩, hSD⟩ rfl
theorem g_SD_st {n : Nat} {τ : Tb} {w : List Nat} {st s : Int32} {tr : List Nat} {Z : ZT} {L : LT} (h : g_SD n τ w st tr Z L) : g_SD n τ w s tr (upR Z 50 (fun _ => s)) L := by
  obtain ⟨h1, h2, h3, h4, h5, h6, h7, h8⟩ := h
  exact ⟨h1, h2, h3, h4, rfl, h6, h7, h8⟩
theorem g_SD_sw {n : Nat} {τ : Tb} {w : List Nat} {st : Int32} {tr tr' : List Nat} {Z : ZT} {L : LT} (h : g_SD n τ w st tr Z L) (h1 : Z 46 0 = nI tr'.length) (h2 : g_tr (L 26) tr') (h3 : tr'.length ≤ 2200) : g_SD n τ w st tr' (swZ Z) (swL L) := by
  obtain ⟨a1, a2, a3, a4, a5, a6, a7, a8⟩ := h
  exact ⟨a1, a2, a3, a4, a5, h1, h2, h3⟩
set_option maxHeartbeats 4000000 in
set_option maxRecDepth 100000 in
theorem c_X7_read (ll : Launch) (hst : ll.stackTraces = false) (D : va_G) (ad ro : Nat → Nat) (c : Nat → ClassId) (Z : ZT) (L : LT) {n : Nat} {τ : Tb} {w : List Nat} {st : Int32} {tr : List Nat} (x : Int32) (hSD : g_SD n τ w st tr Z L) : cXI (S := (Nat → Nat) × ZT × LT) (SX := ZT × LT) ll yX7_read vsX7_read ({ frames := 7, cells := 3, slots := 18, locals := 138 } : Room) D (tysG c) [.ref (ad 0), .int (x)] (wd ad ro c Z L) (fun u => wd u.1 ro c u.2.1 u.2.2) (fun r u => k_read n τ w x = 0 ∧ r = nI (g_RD τ (cN x) w).2.2.1 ∧ u.1 = swA ad ∧ g_SD n τ w (-1) (g_RD τ (cN x) w).2.2.2 u.2.1 u.2.2) (fun u => wd ad ro c u.1 u.2) (fun E u => xk ["java/lang/IndexOutOfBoundsException", "java/lang/IllegalStateException", "java/lang/IllegalArgumentException"] (k_read n τ w x) E ∧ g_SD n τ w (if k_read n τ w x = 3 then nI (g_RD τ (cN x) w).2.1 else st) tr u.1 u.2) 3 18 := by
  refine cXI_start (cc := cX7_read) (maxL := 2) RX7 rfl (by decide +kernel) rfl (Nat.le_of_ble_eq_true rfl) hst ?_
  intro κ hlκ X hr E hR hn
  subst hlκ
  have C := X.1
  have hL : ∀ w ∈ u_ws RX7 TX7 7, w.before (ja κ) (js κ) = true := fun w h => C.t w (mX7_read_wsX70 w h)
  have f37 : (Cond.fieldLink RX7 37 "GuardedGrammar" (TX7 3).2.1 (TX7 3).2.2.1).before (ja κ) (js κ) = true := C.t (.fieldLink RX7 37 "GuardedGrammar" "reader" "LGuardedGrammar$Reader;") (mX7_read_o _ (by decide +kernel))
  have f28 : (Cond.fieldLink RX7 28 "GuardedGrammar" (TX7 2).2.1 (TX7 2).2.2.1).before (ja κ) (js κ) = true := C.t (.fieldLink RX7 28 "GuardedGrammar" "word" "LGuardedGrammar$Word;") (mX7_read_o _ (by decide +kernel))
  have f57 : (Cond.fieldLink RX7 57 "GuardedGrammar" (TX7 6).2.1 (TX7 6).2.2.1).before (ja κ) (js κ) = true := C.t (.fieldLink RX7 57 "GuardedGrammar" "stopped" "I") (mX7_read_o _ (by decide +kernel))
  show J D κ 0 0 0 [(0, .ref (ad 0)), (1, .int (x))] [] (wd ad ro c Z L)
  obtain ⟨hwf, hE, hz, hwd, h50, h47, htr, htl⟩ := id hSD
  refine j_aload_n C 0 0 dX7_read_0 rfl rfl ?_
  refine j_iload_n C 1 1 dX7_read_1 rfl rfl ?_
  refine j_xcallV (mc := 1) (ms := 6) X 2 (c_X7_needTerm (jl κ) X.2.2.2.2 D ad ro c Z L n x hz) gX7_read_X7_needTerm rfl rfl rfl hd_X7_needTerm (by rw [hR]; exact ⟨Nat.le_of_ble_eq_true rfl, Nat.le_of_ble_eq_true rfl⟩) (ci := 7) rfl 0 (wd_o0 ad ro c Z L) rfl (Nat.le_of_ble_eq_true rfl) (by rw [hR]; exact ⟨Nat.le_of_ble_eq_true rfl, Nat.le_of_ble_eq_true rfl⟩) dX7_read_2 E ⟨Nat.le_of_ble_eq_true rfl, Nat.le_of_ble_eq_true rfl⟩ (fun E9 u9 h9 => have hk1 : k_read n τ w x = 1 := (by unfold k_read; rw [if_pos h9.2]); ⟨(Z, L), ⟨⟨0, by rw [h9.1]; rfl, hk1⟩, by rw [if_neg (by rw [hk1]; decide)]; exact hSD⟩, rfl⟩) (fun _ q2 => ?_)
  obtain ⟨p, hpn, rfl⟩ := (bT_iff hwf.1).mp q2
  have hbp : bT n (nI p) := q2
  have hcp : cN (nI p) = p := nI_clamp (by have := hwf.1; omega)
  refine j_aload_n C 5 0 dX7_read_5 rfl rfl ?_
  refine j_iload_n C 6 1 dX7_read_6 rfl rfl ?_
  refine j_xcallV (mc := 1) (ms := 6) X 7 (c_X7_needTyped (jl κ) X.2.2.2.2 D ad ro c Z L p hwf hpn hE) gX7_read_X7_needTyped rfl rfl rfl hd_X7_needTyped (by rw [hR]; exact ⟨Nat.le_of_ble_eq_true rfl, Nat.le_of_ble_eq_true rfl⟩) (ci := 7) rfl 0 (wd_o0 ad ro c Z L) rfl (Nat.le_of_ble_eq_true rfl) (by rw [hR]; exact ⟨Nat.le_of_ble_eq_true rfl, Nat.le_of_ble_eq_true rfl⟩) dX7_read_7 E ⟨Nat.le_of_ble_eq_true rfl, Nat.le_of_ble_eq_true rfl⟩ (fun E9 u9 h9 => have hk2 : k_read n τ w (nI p) = 2 := (by unfold k_read; rw [if_neg (fun z => z hbp), if_pos (by rw [hcp]; exact h9.2.1)]); ⟨(u9, L), ⟨⟨1, by rw [h9.1]; rfl, hk2⟩, by rw [if_neg (by rw [hk2]; decide)]; exact g_SD_fr hSD h9.2.2 (by decide) rfl⟩, rfl⟩) (fun Z7 q7 => ?_)
  obtain ⟨hST7, hfo7, hfr7⟩ := q7
  have hSD7 : g_SD n τ w st tr Z7 L := g_SD_fr hSD hfr7 (by decide) rfl
  have hE7 : g_ED n τ Z7 := hSD7.2.1
  have hwd7 := hSD7.2.2.2.1
  have hpn2 := hpn
  have hTY : g_TY τ p (g_T τ p) := g_fo_TY hwf hpn hST7.2.2.1 hfo7
  refine j_aload_n C 10 0 dX7_read_10 rfl rfl ?_
  refine j_get C 11 (ci := 7) hL rfl 0 (wd_o0 ad ro c Z7 L) 3 (by decide) f37 rfl (v := .ref (ad 4)) rfl dX7_read_11 ?_
  refine j_iload_n C 14 1 dX7_read_14 rfl rfl ?_
  refine j_aload_n C 15 0 dX7_read_15 rfl rfl ?_
  refine j_get C 16 (ci := 7) hL rfl 0 (wd_o0 ad ro c Z7 L) 2 (by decide) f28 rfl (v := .ref (ad 3)) rfl dX7_read_16 ?_
  refine j_callI (mc := 0) (ms := 0) C 19 (c_X0_reads (jl κ) D ad ro c Z7 L (w := w) p hwf hpn hE7 hwd7 hST7 hTY) gX7_read_X0_reads rfl rfl rfl hd_X0_reads (by rw [hR]; exact ⟨Nat.le_of_ble_eq_true rfl, Nat.le_of_ble_eq_true rfl⟩) (ci := 0) rfl 4 (wd_o4 ad ro c Z7 L) rfl (Nat.le_of_ble_eq_true rfl) (by rw [hR]; exact ⟨Nat.le_of_ble_eq_true rfl, Nat.le_of_ble_eq_true rfl⟩) dX7_read_19 (fun r19 u19 q19 => ?_)
  obtain ⟨⟨e19, hpl, hok, hb1, hb2, hb3⟩, hfrz, hfrl⟩ := q19
  refine j_eqi e19 ?_
  have hSD19 : g_SD n τ w st tr u19.1 u19.2 := g_SD_fr hSD7 hfrz (by decide) (hfrl 27 (by decide))
  refine j_if_ne_b C 22 44 dX7_read_22 (by decide) (fun h22 => ?_) (fun h22 => ?_)
  · have hyes := of_decide_eq_true h22
    refine j_aload_n C 44 0 dX7_read_44 rfl rfl ?_
    refine j_iconst C 45 (v := -1) dX7_read_45 rfl ?_
    refine j_put C 46 (ci := 7) hL tyX7_ok nmX7 rfl 0 (wd_o0 ad ro c u19.1 u19.2) 6 (by decide) f57 rfl rfl (tyX7_ok 6 (by decide)) rfl rfl (Nat.le_of_ble_eq_true rfl) (wd_p50 ad ro c u19.1 u19.2 (-1)) dX7_read_46 ?_
    refine j_aload_n C 49 0 dX7_read_49 rfl rfl ?_
    refine j_get C 50 (ci := 7) hL rfl 0 (wd_o0 ad ro c (upR u19.1 50 (fun _ => -1)) u19.2) 3 (by decide) f37 rfl (v := .ref (ad 4)) rfl dX7_read_50 ?_
    refine j_callV (mc := 0) (ms := 0) C 53 (c_X0_keepSteps (jl κ) D ad ro c (upR u19.1 50 (fun _ => -1)) u19.2) gX7_read_X0_keepSteps rfl rfl rfl hd_X0_keepSteps (by rw [hR]; exact ⟨Nat.le_of_ble_eq_true rfl, Nat.le_of_ble_eq_true rfl⟩) (ci := 0) rfl 4 (wd_o4 ad ro c (upR u19.1 50 (fun _ => -1)) u19.2) rfl (Nat.le_of_ble_eq_true rfl) (by rw [hR]; exact ⟨Nat.le_of_ble_eq_true rfl, Nat.le_of_ble_eq_true rfl⟩) dX7_read_53 (fun _ _ => ?_)
    refine j_aload_n C 56 0 dX7_read_56 rfl rfl ?_
    refine j_get C 57 (ci := 7) hL rfl 0 (wd_o0 (swA ad) ro c (swZ (upR u19.1 50 (fun _ => -1))) (swL u19.2)) 3 (by decide) f37 rfl (v := .ref (ad 4)) rfl dX7_read_57 ?_
    refine j_callI (mc := 0) (ms := 0) C 60 (c_X0_visits (jl κ) D (swA ad) ro c (swZ (upR u19.1 50 (fun _ => -1))) (swL u19.2) ) gX7_read_X0_visits rfl rfl rfl hd_X0_visits (by rw [hR]; exact ⟨Nat.le_of_ble_eq_true rfl, Nat.le_of_ble_eq_true rfl⟩) (ci := 0) rfl 4 (wd_o4 (swA ad) ro c (swZ (upR u19.1 50 (fun _ => -1))) (swL u19.2)) rfl (Nat.le_of_ble_eq_true rfl) (by rw [hR]; exact ⟨Nat.le_of_ble_eq_true rfl, Nat.le_of_ble_eq_true rfl⟩) dX7_read_60 (fun r60 _ e60 => ?_)
    refine j_eqi (y := nI ((g_RD τ p w).2.2.1)) (e60.trans (hok hyes.1).1) ?_
    exact j_xireti C hr E (Nat.le_of_ble_eq_true rfl) (Nat.le_of_ble_eq_true rfl) rfl (swA ad, (swZ (upR u19.1 50 (fun _ => -1))), (swL u19.2)) ⟨by unfold k_read; rw [if_neg (fun z => z hbp), if_neg (by rw [hcp]; exact fun z => z hfo7), if_neg (by rw [hcp]; exact fun z => z hyes)], by rw [hcp], rfl, by rw [hcp]; exact g_SD_sw (g_SD_st hSD19) (hok hyes.1).2.1 (hok hyes.1).2.2 hb3⟩ rfl dX7_read_63
  · have hSDr : g_SD n τ w (nI (g_RD τ p w).2.1) tr (upR u19.1 50 (fun _ => nI ((g_RD τ p w).2.1))) u19.2 := g_SD_st hSD19
    refine j_aload_n C 25 0 dX7_read_25 rfl rfl ?_
    refine j_aload_n C 26 0 dX7_read_26 rfl rfl ?_
    refine j_get C 27 (ci := 7) hL rfl 0 (wd_o0 ad ro c u19.1 u19.2) 3 (by decide) f37 rfl (v := .ref (ad 4)) rfl dX7_read_27 ?_
    refine j_callI (mc := 0) (ms := 0) C 30 (c_X0_place (jl κ) D ad ro c u19.1 u19.2 ) gX7_read_X0_place rfl rfl rfl hd_X0_place (by rw [hR]; exact ⟨Nat.le_of_ble_eq_true rfl, Nat.le_of_ble_eq_true rfl⟩) (ci := 0) rfl 4 (wd_o4 ad ro c u19.1 u19.2) rfl (Nat.le_of_ble_eq_true rfl) (by rw [hR]; exact ⟨Nat.le_of_ble_eq_true rfl, Nat.le_of_ble_eq_true rfl⟩) dX7_read_30 (fun r30 _ e30 => ?_)
    refine j_eqi (y := nI ((g_RD τ p w).2.1)) (e30.trans hpl) ?_
    refine j_put C 33 (ci := 7) hL tyX7_ok nmX7 rfl 0 (wd_o0 ad ro c u19.1 u19.2) 6 (by decide) f57 rfl rfl (tyX7_ok 6 (by decide)) rfl rfl (Nat.le_of_ble_eq_true rfl) (wd_p50 ad ro c u19.1 u19.2 (nI ((g_RD τ p w).2.1))) dX7_read_33 ?_
    have hno : ¬ ((g_RD τ (cN (nI p)) w).1 = true ∧ (g_RD τ (cN (nI p)) w).2.1 = w.length) := by rw [hcp]; exact of_decide_eq_false h22
    have hk3 : k_read n τ w (nI p) = 3 := by unfold k_read; rw [if_neg (fun z => z hbp), if_neg (by rw [hcp]; exact fun z => z hfo7), if_pos hno]
    exact j_throw0 X 36 E (ik := 61) (ic := 63) (cls := "java/lang/IllegalArgumentException") ix_IAE fx_IAE (C.t (.classLink RX7 61 "java/lang/IllegalArgumentException") (mX7_read_o _ (by decide +kernel))) (C.t (.initialized "java/lang/IllegalArgumentException") (mX7_read_o _ (by decide +kernel))) mX7_read_t63 ng_IAE gx_IAE dX7_read_36 dX7_read_39 dX7_read_40 dX7_read_43 (by rw [hR]; exact ⟨Nat.le_of_ble_eq_true rfl, Nat.le_of_ble_eq_true rfl⟩) (by rw [hR]; exact ⟨Nat.le_of_ble_eq_true rfl, Nat.le_of_ble_eq_true rfl⟩) (Nat.le_of_ble_eq_true rfl) (Nat.le_of_ble_eq_true rfl) ((upR u19.1 50 (fun _ => nI ((g_RD τ p w).2.1))), u19.2) ⟨⟨2, rfl, hk3⟩, by rw [if_pos hk3, hcp]; exact hSDr⟩ rfl
set_option maxHeartbeats 4000000 in
set_option maxRecDepth 100000 in
theorem c_X7_countTo (ll : Launch) (hst : ll.stackTraces = false) (D : va_G) (ad ro : Nat → Nat) (c : Nat → ClassId) (Z : ZT) (L : LT) {n : Nat} {τ : Tb} {w : List Nat} {st : Int32} {tr : List Nat} (x y : Int32) (hSD : g_SD n τ w st tr Z L) : cXV (S := ZT × LT) (SX := ZT × LT) ll yX7_countTo vsX7_countTo ({ frames := 7, cells := 3, slots := 18, locals := 138 } : Room) D (tysG c) [.ref (ad 0), .int (x), .int (y)] (wd ad ro c Z L) (fun u => wd ad ro c u.1 u.2) (fun u => k_count n τ x y = 0 ∧ ∃ p k, p < n ∧ x = nI p ∧ k ≤ 16 ∧ y = nI k ∧ g_fo τ p = 0 ∧ g_ST τ p u.1 ∧ g_CN τ p (k + 1) (vD u.2) ∧ g_SD n τ w st tr u.1 u.2) (fun u => wd ad ro c u.1 u.2) (fun E u => xk ["java/lang/IndexOutOfBoundsException", "java/lang/IllegalStateException", "java/lang/IllegalArgumentException"] (k_count n τ x y) E ∧ g_SD n τ w st tr u.1 u.2) 3 18 := by
  refine cXV_start (cc := cX7_countTo) (maxL := 3) RX7 rfl (by decide +kernel) rfl (Nat.le_of_ble_eq_true rfl) hst ?_
  intro κ hlκ X hr E hR hn
  subst hlκ
  have C := X.1
  have hL : ∀ w ∈ u_ws RX7 TX7 7, w.before (ja κ) (js κ) = true := fun w h => C.t w (mX7_countTo_wsX70 w h)
  have f44 : (Cond.fieldLink RX7 44 "GuardedGrammar" (TX7 4).2.1 (TX7 4).2.2.1).before (ja κ) (js κ) = true := C.t (.fieldLink RX7 44 "GuardedGrammar" "tally" "LGuardedGrammar$Tally;") (mX7_countTo_o _ (by decide +kernel))
  show J D κ 0 0 0 [(0, .ref (ad 0)), (1, .int (x)), (2, .int (y))] [] (wd ad ro c Z L)
  obtain ⟨hwf, hE, hz, hwd, h50, h47, htr, htl⟩ := id hSD
  refine j_aload_n C 0 0 dX7_countTo_0 rfl rfl ?_
  refine j_iload_n C 1 1 dX7_countTo_1 rfl rfl ?_
  refine j_xcallV (mc := 1) (ms := 6) X 2 (c_X7_needTerm (jl κ) X.2.2.2.2 D ad ro c Z L n x hz) gX7_countTo_X7_needTerm rfl rfl rfl hd_X7_needTerm (by rw [hR]; exact ⟨Nat.le_of_ble_eq_true rfl, Nat.le_of_ble_eq_true rfl⟩) (ci := 7) rfl 0 (wd_o0 ad ro c Z L) rfl (Nat.le_of_ble_eq_true rfl) (by rw [hR]; exact ⟨Nat.le_of_ble_eq_true rfl, Nat.le_of_ble_eq_true rfl⟩) dX7_countTo_2 E ⟨Nat.le_of_ble_eq_true rfl, Nat.le_of_ble_eq_true rfl⟩ (fun E9 u9 h9 => ⟨(Z, L), ⟨⟨0, by rw [h9.1]; rfl, by unfold k_count; rw [if_pos h9.2]⟩, hSD⟩, rfl⟩) (fun _ q2 => ?_)
  obtain ⟨p, hpn, rfl⟩ := (bT_iff hwf.1).mp q2
  have hbp : bT n (nI p) := q2
  have hcp : cN (nI p) = p := nI_clamp (by have := hwf.1; omega)
  refine j_aload_n C 5 0 dX7_countTo_5 rfl rfl ?_
  refine j_iload_n C 6 1 dX7_countTo_6 rfl rfl ?_
  refine j_xcallV (mc := 1) (ms := 6) X 7 (c_X7_needTyped (jl κ) X.2.2.2.2 D ad ro c Z L p hwf hpn hE) gX7_countTo_X7_needTyped rfl rfl rfl hd_X7_needTyped (by rw [hR]; exact ⟨Nat.le_of_ble_eq_true rfl, Nat.le_of_ble_eq_true rfl⟩) (ci := 7) rfl 0 (wd_o0 ad ro c Z L) rfl (Nat.le_of_ble_eq_true rfl) (by rw [hR]; exact ⟨Nat.le_of_ble_eq_true rfl, Nat.le_of_ble_eq_true rfl⟩) dX7_countTo_7 E ⟨Nat.le_of_ble_eq_true rfl, Nat.le_of_ble_eq_true rfl⟩ (fun E9 u9 h9 => ⟨(u9, L), ⟨⟨1, by rw [h9.1]; rfl, by unfold k_count; rw [if_neg (fun z => z hbp), if_pos (by rw [hcp]; exact h9.2.1)]⟩, g_SD_fr hSD h9.2.2 (by decide) rfl⟩, rfl⟩) (fun Z7 q7 => ?_)
  obtain ⟨hST7, hfo7, hfr7⟩ := q7
  have hSD7 : g_SD n τ w st tr Z7 L := g_SD_fr hSD hfr7 (by decide) rfl
  refine j_iload_n C 10 2 dX7_countTo_10 rfl rfl ?_
  refine j_if_lt C 11 20 dX7_countTo_11 (by decide) (fun h11 => ?_) (fun h11 => ?_)
  · exact j_throw0 X 20 E (ik := 61) (ic := 63) (cls := "java/lang/IllegalArgumentException") ix_IAE fx_IAE (C.t (.classLink RX7 61 "java/lang/IllegalArgumentException") (mX7_countTo_o _ (by decide +kernel))) (C.t (.initialized "java/lang/IllegalArgumentException") (mX7_countTo_o _ (by decide +kernel))) mX7_countTo_t63 ng_IAE gx_IAE dX7_countTo_20 dX7_countTo_23 dX7_countTo_24 dX7_countTo_27 (by rw [hR]; exact ⟨Nat.le_of_ble_eq_true rfl, Nat.le_of_ble_eq_true rfl⟩) (by rw [hR]; exact ⟨Nat.le_of_ble_eq_true rfl, Nat.le_of_ble_eq_true rfl⟩) (Nat.le_of_ble_eq_true rfl) (Nat.le_of_ble_eq_true rfl) (Z7, L) ⟨⟨2, rfl, by unfold k_count; rw [if_neg (fun z => z hbp), if_neg (by rw [hcp]; exact fun z => z hfo7), if_pos (Or.inl h11)]⟩, hSD7⟩ rfl
  · refine j_iload_n C 14 2 dX7_countTo_14 rfl rfl ?_
    refine j_bipush C 15 (v := nI 16) dX7_countTo_15 rfl ?_
    refine j_icmp_le C 17 28 dX7_countTo_17 (by decide) (fun h17 => ?_) (fun h17 => ?_)
    · have hTY : g_TY τ p (g_T τ p) := g_fo_TY hwf hpn hST7.2.2.1 hfo7
      have hk0 : k_count n τ (nI p) y = 0 := by unfold k_count; rw [if_neg (fun z => z hbp), if_neg (by rw [hcp]; exact fun z => z hfo7), if_neg (fun z => z.elim h11 (fun z => z h17))]
      obtain ⟨k, hk16, rfl⟩ := e_in2 (by decide) h11 h17
      refine j_aload_n C 28 0 dX7_countTo_28 rfl rfl ?_
      refine j_get C 29 (ci := 7) hL rfl 0 (wd_o0 ad ro c Z7 L) 4 (by decide) f44 rfl (v := .ref (ad 7)) rfl dX7_countTo_29 ?_
      refine j_iload_n C 32 2 dX7_countTo_32 rfl rfl ?_
      refine j_callV (mc := 0) (ms := 0) C 33 (c_X3_countTo (jl κ) D ad ro c Z7 L k hwf hpn hSD7.2.1 hST7 hTY hk16) gX7_countTo_X3_countTo rfl rfl rfl hd_X3_countTo (by rw [hR]; exact ⟨Nat.le_of_ble_eq_true rfl, Nat.le_of_ble_eq_true rfl⟩) (ci := 3) rfl 7 (wd_o7 ad ro c Z7 L) rfl (Nat.le_of_ble_eq_true rfl) (by rw [hR]; exact ⟨Nat.le_of_ble_eq_true rfl, Nat.le_of_ble_eq_true rfl⟩) dX7_countTo_33 (fun L33 q33 => ?_)
      exact j_xvreti C hr E (Nat.le_of_ble_eq_true rfl) (Nat.le_of_ble_eq_true rfl) (Z7, L33) ⟨hk0, p, k, hpn, rfl, hk16, rfl, hfo7, hST7, q33.1, g_SD_fr (ks := []) hSD7 g_fr_rfl (by decide) (q33.2 27 (by decide))⟩ rfl dX7_countTo_36
    · exact j_throw0 X 20 E (ik := 61) (ic := 63) (cls := "java/lang/IllegalArgumentException") ix_IAE fx_IAE (C.t (.classLink RX7 61 "java/lang/IllegalArgumentException") (mX7_countTo_o _ (by decide +kernel))) (C.t (.initialized "java/lang/IllegalArgumentException") (mX7_countTo_o _ (by decide +kernel))) mX7_countTo_t63 ng_IAE gx_IAE dX7_countTo_20 dX7_countTo_23 dX7_countTo_24 dX7_countTo_27 (by rw [hR]; exact ⟨Nat.le_of_ble_eq_true rfl, Nat.le_of_ble_eq_true rfl⟩) (by rw [hR]; exact ⟨Nat.le_of_ble_eq_true rfl, Nat.le_of_ble_eq_true rfl⟩) (Nat.le_of_ble_eq_true rfl) (Nat.le_of_ble_eq_true rfl) (Z7, L) ⟨⟨2, rfl, by unfold k_count; rw [if_neg (fun z => z hbp), if_neg (by rw [hcp]; exact fun z => z hfo7), if_pos (Or.inr h17)]⟩, hSD7⟩ rfl
set_option maxHeartbeats 4000000 in
set_option maxRecDepth 100000 in
theorem c_X7_count (ll : Launch) (hst : ll.stackTraces = false) (D : va_G) (ad ro : Nat → Nat) (c : Nat → ClassId) (Z : ZT) (L : LT) {n : Nat} {τ : Tb} {w : List Nat} {st : Int32} {tr : List Nat} (x y : Int32) (hSD : g_SD n τ w st tr Z L) : cXL (S := ZT × LT) (SX := ZT × LT) ll yX7_count vsX7_count ({ frames := 8, cells := 3, slots := 18, locals := 160 } : Room) D (tysG c) [.ref (ad 0), .int (x), .int (y)] (wd ad ro c Z L) (fun u => wd ad ro c u.1 u.2) (fun r u => k_count n τ x y = 0 ∧ r = lN (g_c τ (cN x) (cN x) (cN y)) ∧ g_SD n τ w st tr u.1 u.2) (fun u => wd ad ro c u.1 u.2) (fun E u => xk ["java/lang/IndexOutOfBoundsException", "java/lang/IllegalStateException", "java/lang/IllegalArgumentException"] (k_count n τ x y) E ∧ g_SD n τ w st tr u.1 u.2) 3 18 := by
  refine cXL_start (cc := cX7_count) (maxL := 3) RX7 rfl (by decide +kernel) rfl (Nat.le_of_ble_eq_true rfl) hst ?_
  intro κ hlκ X hr E hR hn
  subst hlκ
  have C := X.1
  have hL : ∀ w ∈ u_ws RX7 TX7 7, w.before (ja κ) (js κ) = true := fun w h => C.t w (mX7_count_wsX70 w h)
  have f44 : (Cond.fieldLink RX7 44 "GuardedGrammar" (TX7 4).2.1 (TX7 4).2.2.1).before (ja κ) (js κ) = true := C.t (.fieldLink RX7 44 "GuardedGrammar" "tally" "LGuardedGrammar$Tally;") (mX7_count_o _ (by decide +kernel))
  show J D κ 0 0 0 [(0, .ref (ad 0)), (1, .int (x)), (2, .int (y))] [] (wd ad ro c Z L)
  obtain ⟨hwf, hE, hz, hwd, h50, h47, htr, htl⟩ := id hSD
  refine j_aload_n C 0 0 dX7_count_0 rfl rfl ?_
  refine j_iload_n C 1 1 dX7_count_1 rfl rfl ?_
  refine j_iload_n C 2 2 dX7_count_2 rfl rfl ?_
  refine j_xcallV (mc := 3) (ms := 18) X 3 (c_X7_countTo (jl κ) X.2.2.2.2 D ad ro c Z L x y hSD) gX7_count_X7_countTo rfl rfl rfl hd_X7_countTo (by rw [hR]; exact ⟨Nat.le_of_ble_eq_true rfl, Nat.le_of_ble_eq_true rfl⟩) (ci := 7) rfl 0 (wd_o0 ad ro c Z L) rfl (Nat.le_of_ble_eq_true rfl) (by rw [hR]; exact ⟨Nat.le_of_ble_eq_true rfl, Nat.le_of_ble_eq_true rfl⟩) dX7_count_3 E ⟨Nat.le_of_ble_eq_true rfl, Nat.le_of_ble_eq_true rfl⟩ (fun E9 u9 h9 => ⟨u9, h9, rfl⟩) (fun u3 q3 => ?_)
  obtain ⟨hk0, p, k, hpn, rfl, hk16, rfl, hfo, hST, hCN, hSD3⟩ := q3
  have hcp : cN (nI p) = p := nI_clamp (by have := hwf.1; omega)
  have hck : cN (nI k) = k := nI_clamp (by omega)
  have hpP := g_P_self hwf hpn
  have hTY : g_TY τ p (g_T τ p) := g_fo_TY hwf hpn hST.2.2.1 hfo
  refine j_aload_n C 6 0 dX7_count_6 rfl rfl ?_
  refine j_get C 7 (ci := 7) hL rfl 0 (wd_o0 ad ro c u3.1 u3.2) 4 (by decide) f44 rfl (v := .ref (ad 7)) rfl dX7_count_7 ?_
  refine j_iload_n C 10 1 dX7_count_10 rfl rfl ?_
  refine j_iload_n C 11 2 dX7_count_11 rfl rfl ?_
  refine j_callL (mc := 0) (ms := 0) C 12 (c_X3_words (jl κ) D ad ro c u3.1 u3.2 (p) (k) (by have := hwf.1; omega) (by omega)) gX7_count_X3_words rfl rfl rfl hd_X3_words (by rw [hR]; exact ⟨Nat.le_of_ble_eq_true rfl, Nat.le_of_ble_eq_true rfl⟩) (ci := 3) rfl 7 (wd_o7 ad ro c u3.1 u3.2) rfl (Nat.le_of_ble_eq_true rfl) (by rw [hR]; exact ⟨Nat.le_of_ble_eq_true rfl, Nat.le_of_ble_eq_true rfl⟩) dX7_count_12 (fun r12 _ e12 => ?_)
  refine j_eql (y := (lN (g_c τ p p k))) (e12.trans (hCN p hpP k (Nat.lt_succ_self k))) ?_
  exact j_xlreti C hr E (Nat.le_of_ble_eq_true rfl) (Nat.le_of_ble_eq_true rfl) (u3.1, u3.2) ⟨hk0, by rw [hcp, hck], hSD3⟩ rfl dX7_count_15
theorem lg_lt0 {x y : Int64} : lg_cmp x y < 0 ↔ ¬ y ≤ x := by
  rw [← lg_cmp_ge x y]
  exact Int32.not_le.symm
theorem xk_find {n : Nat} {τ : Tb} {x y : Int32} {l : Int64} {E : String} (h : xk ["java/lang/IndexOutOfBoundsException", "java/lang/IllegalStateException", "java/lang/IllegalArgumentException"] (k_count n τ x y) E) : xk ["java/lang/IndexOutOfBoundsException", "java/lang/IllegalStateException", "java/lang/IllegalArgumentException", "java/util/NoSuchElementException"] (k_find n τ x y l) E := by
  obtain ⟨i, hi, hk⟩ := h
  refine ⟨i, ?_, ?_⟩
  · rcases i with _ | _ | _ | i
    · exact hi
    · exact hi
    · exact hi
    · simp at hi
  · unfold k_find
    rw [if_pos (by omega)]
    exact hk
set_option maxHeartbeats 4000000 in
set_option maxRecDepth 100000 in
theorem c_X7_find (ll : Launch) (hst : ll.stackTraces = false) (D : va_G) (ad ro : Nat → Nat) (c : Nat → ClassId) (Z : ZT) (L : LT) {n : Nat} {τ : Tb} {w : List Nat} {st : Int32} {tr : List Nat} (x y : Int32) (l : Int64) (hSD : g_SD n τ w st tr Z L) : cXV (S := ZT × LT) (SX := ZT × LT) ll yX7_find vsX7_find ({ frames := 8, cells := 4, slots := 24, locals := 160 } : Room) D (tysG c) [.ref (ad 0), .int (x), .int (y), .long (l)] (wd ad ro c Z L) (fun u => wd ad ro c u.1 u.2) (fun u => k_find n τ x y l = 0 ∧ g_SD n τ (w_find τ x y l) st tr u.1 u.2) (fun u => wd ad ro c u.1 u.2) (fun E u => xk ["java/lang/IndexOutOfBoundsException", "java/lang/IllegalStateException", "java/lang/IllegalArgumentException", "java/util/NoSuchElementException"] (k_find n τ x y l) E ∧ g_SD n τ w st tr u.1 u.2) 4 24 := by
  refine cXV_start (cc := cX7_find) (maxL := 5) RX7 rfl (by decide +kernel) rfl (Nat.le_of_ble_eq_true rfl) hst ?_
  intro κ hlκ X hr E hR hn
  subst hlκ
  have C := X.1
  have hL : ∀ w ∈ u_ws RX7 TX7 7, w.before (ja κ) (js κ) = true := fun w h => C.t w (mX7_find_wsX70 w h)
  have f44 : (Cond.fieldLink RX7 44 "GuardedGrammar" (TX7 4).2.1 (TX7 4).2.2.1).before (ja κ) (js κ) = true := C.t (.fieldLink RX7 44 "GuardedGrammar" "tally" "LGuardedGrammar$Tally;") (mX7_find_o _ (by decide +kernel))
  have f53 : (Cond.fieldLink RX7 53 "GuardedGrammar" (TX7 5).2.1 (TX7 5).2.2.1).before (ja κ) (js κ) = true := C.t (.fieldLink RX7 53 "GuardedGrammar" "speller" "LGuardedGrammar$Speller;") (mX7_find_o _ (by decide +kernel))
  have f28 : (Cond.fieldLink RX7 28 "GuardedGrammar" (TX7 2).2.1 (TX7 2).2.2.1).before (ja κ) (js κ) = true := C.t (.fieldLink RX7 28 "GuardedGrammar" "word" "LGuardedGrammar$Word;") (mX7_find_o _ (by decide +kernel))
  show J D κ 0 0 0 [(0, .ref (ad 0)), (1, .int (x)), (2, .int (y)), (3, .long (l))] [] (wd ad ro c Z L)
  obtain ⟨hwf, hE, hz, hwd, h50, h47, htr, htl⟩ := id hSD
  refine j_aload_n C 0 0 dX7_find_0 rfl rfl ?_
  refine j_iload_n C 1 1 dX7_find_1 rfl rfl ?_
  refine j_iload_n C 2 2 dX7_find_2 rfl rfl ?_
  refine j_xcallV (mc := 3) (ms := 18) X 3 (c_X7_countTo (jl κ) X.2.2.2.2 D ad ro c Z L x y hSD) gX7_find_X7_countTo rfl rfl rfl hd_X7_countTo (by rw [hR]; exact ⟨Nat.le_of_ble_eq_true rfl, Nat.le_of_ble_eq_true rfl⟩) (ci := 7) rfl 0 (wd_o0 ad ro c Z L) rfl (Nat.le_of_ble_eq_true rfl) (by rw [hR]; exact ⟨Nat.le_of_ble_eq_true rfl, Nat.le_of_ble_eq_true rfl⟩) dX7_find_3 E ⟨Nat.le_of_ble_eq_true rfl, Nat.le_of_ble_eq_true rfl⟩ (fun E9 u9 h9 => ⟨u9, ⟨xk_find h9.1, h9.2⟩, rfl⟩) (fun u3 q3 => ?_)
  obtain ⟨hk0, p, k, hpn, rfl, hk16, rfl, hfo, hST, hCN, hSD3⟩ := q3
  have hcp : cN (nI p) = p := nI_clamp (by have := hwf.1; omega)
  have hck : cN (nI k) = k := nI_clamp (by omega)
  have hpP := g_P_self hwf hpn
  have hTY : g_TY τ p (g_T τ p) := g_fo_TY hwf hpn hST.2.2.1 hfo
  refine j_lload_n C 6 3 dX7_find_6 rfl rfl ?_
  refine j_lconst C 7 (v := lN 0) dX7_find_7 rfl ?_
  refine j_lcmp C 8 dX7_find_8 ?_
  refine j_if_lt C 9 26 dX7_find_9 (by decide) (fun h9 => ?_) (fun h9 => ?_)
  · exact j_throw0 X 26 E (ik := 162) (ic := 164) (cls := "java/util/NoSuchElementException") ix_NSE fx_NSE (C.t (.classLink RX7 162 "java/util/NoSuchElementException") (mX7_find_o _ (by decide +kernel))) (C.t (.initialized "java/util/NoSuchElementException") (mX7_find_o _ (by decide +kernel))) mX7_find_t164 ng_NSE gx_NSE dX7_find_26 dX7_find_29 dX7_find_30 dX7_find_33 (by rw [hR]; exact ⟨Nat.le_of_ble_eq_true rfl, Nat.le_of_ble_eq_true rfl⟩) (by rw [hR]; exact ⟨Nat.le_of_ble_eq_true rfl, Nat.le_of_ble_eq_true rfl⟩) (Nat.le_of_ble_eq_true rfl) (Nat.le_of_ble_eq_true rfl) (u3.1, u3.2) ⟨⟨3, rfl, by unfold k_find; rw [if_neg (by rw [hk0]; decide), if_pos (Or.inl (lg_lt0.mp h9))]⟩, hSD3⟩ rfl
  · refine j_lload_n C 12 3 dX7_find_12 rfl rfl ?_
    refine j_aload_n C 13 0 dX7_find_13 rfl rfl ?_
    refine j_get C 14 (ci := 7) hL rfl 0 (wd_o0 ad ro c u3.1 u3.2) 4 (by decide) f44 rfl (v := .ref (ad 7)) rfl dX7_find_14 ?_
    refine j_iload_n C 17 1 dX7_find_17 rfl rfl ?_
    refine j_iload_n C 18 2 dX7_find_18 rfl rfl ?_
    refine j_callL (mc := 0) (ms := 0) C 19 (c_X3_words (jl κ) D ad ro c u3.1 u3.2 (p) (k) (by have := hwf.1; omega) (by omega)) gX7_find_X3_words rfl rfl rfl hd_X3_words (by rw [hR]; exact ⟨Nat.le_of_ble_eq_true rfl, Nat.le_of_ble_eq_true rfl⟩) (ci := 3) rfl 7 (wd_o7 ad ro c u3.1 u3.2) rfl (Nat.le_of_ble_eq_true rfl) (by rw [hR]; exact ⟨Nat.le_of_ble_eq_true rfl, Nat.le_of_ble_eq_true rfl⟩) dX7_find_19 (fun r19 _ e19 => ?_)
    refine j_eql (y := (lN (g_c τ p p k))) (e19.trans (hCN p hpP k (Nat.lt_succ_self k))) ?_
    refine j_lcmp C 22 dX7_find_22 ?_
    refine j_if_lt C 23 34 dX7_find_23 (by decide) (fun h23 => ?_) (fun h23 => ?_)
    · have hl0 : lN 0 ≤ l := Decidable.of_not_not (fun z => h9 (lg_lt0.mpr z))
      have hlc : ¬ lN (g_c τ p p k) ≤ l := lg_lt0.mp h23
      have hkf : k_find n τ (nI p) (nI k) l = 0 := by unfold k_find; rw [if_neg (by rw [hk0]; decide), if_neg (by rw [hcp, hck]; exact fun z => z.elim (fun z => z hl0) hlc)]
      obtain ⟨q, hq63, rfl⟩ := pk_lOf (Int64.not_lt.mpr hl0)
      have hcs : g_c τ p p k < 2 ^ 63 := by
        have a := g_c_le hwf hpn hTY hpP k
        have b : 8 ^ k ≤ 8 ^ 16 := Nat.pow_le_pow_right (by decide) hk16
        omega
      have hqc : q < g_c τ p p k := by
        rw [pk_lLE hcs hq63] at hlc
        omega
      have hwf9 : w_find τ (nI p) (nI k) (lN q) = g_sw τ p (g_T τ p) k [p] q := by unfold w_find; rw [hcp, hck, pk_lT hq63]; rfl
      refine j_aload_n C 34 0 dX7_find_34 rfl rfl ?_
      refine j_get C 35 (ci := 7) hL rfl 0 (wd_o0 ad ro c u3.1 u3.2) 5 (by decide) f53 rfl (v := .ref (ad 8)) rfl dX7_find_35 ?_
      refine j_iload_n C 38 1 dX7_find_38 rfl rfl ?_
      refine j_iload_n C 39 2 dX7_find_39 rfl rfl ?_
      refine j_lload_n C 40 3 dX7_find_40 rfl rfl ?_
      refine j_aload_n C 41 0 dX7_find_41 rfl rfl ?_
      refine j_get C 42 (ci := 7) hL rfl 0 (wd_o0 ad ro c u3.1 u3.2) 2 (by decide) f28 rfl (v := .ref (ad 3)) rfl dX7_find_42 ?_
      refine j_callV (mc := 0) (ms := 0) C 45 (c_X1_spell (jl κ) D ad ro c u3.1 u3.2 p k q hwf hpn hSD3.2.1 hST hTY hk16 hCN hqc) gX7_find_X1_spell rfl rfl rfl hd_X1_spell (by rw [hR]; exact ⟨Nat.le_of_ble_eq_true rfl, Nat.le_of_ble_eq_true rfl⟩) (ci := 1) rfl 8 (wd_o8 ad ro c u3.1 u3.2) rfl (Nat.le_of_ble_eq_true rfl) (by rw [hR]; exact ⟨Nat.le_of_ble_eq_true rfl, Nat.le_of_ble_eq_true rfl⟩) dX7_find_45 (fun u45 q45 => ?_)
      exact j_xvreti C hr E (Nat.le_of_ble_eq_true rfl) (Nat.le_of_ble_eq_true rfl) (u45.1, u45.2) ⟨hkf, by rw [hwf9]; exact g_SD_w hSD3 q45.2.1 (by decide) (q45.2.2 27 (by decide)) q45.1⟩ rfl dX7_find_48
    · exact j_throw0 X 26 E (ik := 162) (ic := 164) (cls := "java/util/NoSuchElementException") ix_NSE fx_NSE (C.t (.classLink RX7 162 "java/util/NoSuchElementException") (mX7_find_o _ (by decide +kernel))) (C.t (.initialized "java/util/NoSuchElementException") (mX7_find_o _ (by decide +kernel))) mX7_find_t164 ng_NSE gx_NSE dX7_find_26 dX7_find_29 dX7_find_30 dX7_find_33 (by rw [hR]; exact ⟨Nat.le_of_ble_eq_true rfl, Nat.le_of_ble_eq_true rfl⟩) (by rw [hR]; exact ⟨Nat.le_of_ble_eq_true rfl, Nat.le_of_ble_eq_true rfl⟩) (Nat.le_of_ble_eq_true rfl) (Nat.le_of_ble_eq_true rfl) (u3.1, u3.2) ⟨⟨3, rfl, by unfold k_find; rw [if_neg (by rw [hk0]; decide), if_pos (Or.inr (by rw [hcp, hck]; exact Decidable.of_not_not (fun z => h23 (lg_lt0.mpr z))))]⟩, hSD3⟩ rfl
