/-! contracts: Tally.lengthen, Speller -/
theorem upR_upR {α : Type} (Z : Nat → α) (k : Nat) (f g : α) : upR (upR Z k f) k g = upR Z k g := by
  funext j
  by_cases e : j = k
  · subst e; rw [upR_same, upR_same]
  · rw [upR_ne _ _ e, upR_ne _ _ e, upR_ne _ _ e]
theorem e_sub1 (n : Nat) : nI n - nI 1 = nI n + -1 := by rw [Int32.sub_eq_add_neg]; rfl
theorem upR_self {α : Type} (Z : Nat → α) (k : Nat) : upR Z k (Z k) = Z := by
  funext j
  by_cases e : j = k
  · subst e; rw [upR_same]
  · rw [upR_ne _ _ e]
set_option maxHeartbeats 4000000 in
set_option maxRecDepth 100000 in
theorem c_X3_lengthen28 (ll : Launch) (D : va_G) (ad ro : Nat → Nat) (c : Nat → ClassId) (Z : ZT) (L : LT) (s t m : Nat) (ht : t < 48) (hm : m ≤ 16) (hs : s + m < 6290) : cV (S := Nat → Int64) ll yX3_lengthen vsX3_lengthen ({ frames := 0, cells := 0, slots := 0, locals := 0 } : Room) D (tysG c) [.ref (ad 7), .ref (ad 28), .int (nI (s)), .int (nI (t)), .int (nI (m))] (wd ad ro c Z L) (fun f => wd ad ro c Z (upR L 28 f)) (fun f => ∀ j, f j = if s ≤ j ∧ j ≤ s + m then s64 (fun b => L 28 (j - b) * vD L t b) (j - s + 1) else L 28 j) 0 0 := by
  refine cV_start (cc := cX3_lengthen) (maxL := 9) RX3 rfl (by decide +kernel) rfl (Nat.le_of_ble_eq_true rfl) ?_
  intro κ hlκ C hr _ E hR hn
  subst hlκ
  have hL : ∀ w ∈ u_ws RX3 TX3 3, w.before (ja κ) (js κ) = true := fun w h => C.t w (mX3_lengthen_wsX30 w h)
  have f11 : (Cond.fieldLink RX3 11 "GuardedGrammar$Tally" (TX3 2).2.1 (TX3 2).2.2.1).before (ja κ) (js κ) = true := C.t (.fieldLink RX3 11 "GuardedGrammar$Tally" "words" "[[J") (mX3_lengthen_o _ (by decide +kernel))
  show J D κ 0 0 0 [(0, .ref (ad 7)), (1, .ref (ad 28)), (2, .int (nI (s))), (3, .int (nI (t))), (4, .int (nI (m)))] [] (wd ad ro c Z L)
  have loop : ∀ i (f : Nat → Int64), i ≤ m + 1 → (∀ j, f j = if s + i ≤ j ∧ j ≤ s + m then s64 (fun b => L 28 (j - b) * vD L t b) (j - s + 1) else L 28 j) → ∀ lv, lv_pick lv [0, 1, 2, 3, 4, 5] = [(5, .int (nI i + -1)), (0, .ref (ad 7)), (1, .ref (ad 28)), (2, .int (nI s)), (3, .int (nI t)), (4, .int (nI m))] → J D κ 0 0 4 lv [] (wd ad ro c Z (upR L 28 f)) := by
    intro i
    induction i with
    | zero =>
      intro f hi hf lv hlv
      refine j_lv [0, 1, 2, 3, 4, 5] hlv ?_
      refine j_iload C 4 0 dX3_lengthen_4 rfl ?_
      refine j_eqi (y := -1) (by decide) ?_
      refine j_if_lt C 6 66 dX3_lengthen_6 (by decide) (fun _ => ?_) (fun h => absurd (by decide) h)
      exact j_vreti C hr E (Nat.le_refl _) (Nat.le_refl _) f (fun j => by have q := hf j; rw [Nat.add_zero] at q; exact q) rfl dX3_lengthen_66
    | succ i ih =>
      intro f hi hf lv hlv
      rw [pk_m1] at hlv
      refine j_lv [0, 1, 2, 3, 4, 5] hlv ?_
      have inner : ∀ q b, q + b = i + 1 → ∀ lv, lv_pick lv [0, 1, 2, 3, 4, 5, 6, 7] = [(8, .int (nI (b))), (6, .long (s64 (fun b => L 28 (s + i - b) * vD L t b) b)), (0, .ref (ad 7)), (1, .ref (ad 28)), (2, .int (nI (s))), (3, .int (nI (t))), (4, .int (nI (m))), (5, .int (nI (i)))] → J D κ 0 0 15 lv [] (wd ad ro c Z (upR L 28 f)) := by
        intro q
        induction q with
        | zero =>
          intro b hq lv hlv
          obtain rfl : b = i + 1 := by omega
          refine j_lv [0, 1, 2, 3, 4, 5, 6, 7] hlv ?_
          refine j_iload C 15 0 dX3_lengthen_15 rfl ?_
          refine j_iload C 17 7 dX3_lengthen_17 rfl ?_
          refine j_icmp_gt_n C 19 52 (by omega) (by omega) dX3_lengthen_19 (by decide) (fun _ => ?_) (fun h => absurd h (by omega))
          refine j_aload_n C 52 3 dX3_lengthen_52 rfl rfl ?_
          refine j_iload_n C 53 4 dX3_lengthen_53 rfl rfl ?_
          refine j_iload C 54 7 dX3_lengthen_54 rfl ?_
          refine j_iadd_e C 56 dX3_lengthen_56 (nI_add _ _) ?_
          refine j_lload C 57 1 dX3_lengthen_57 rfl ?_
          refine j_last C 59 28 2 (f := f) (wd_a28 ad ro c Z (upR L 28 f)) rfl (by omega) (by decide) (wd_s28 ad ro c Z (upR L 28 f) (vp_updL (f) (s + i) (s64 (fun b => L 28 (s + i - b) * vD L t b) (i + 1)))) dX3_lengthen_59 ?_
          refine j_iinc C 60 7 (v := nI i + -1) (lv' := [(5, .int (nI i + -1)), (8, .int (nI (i + 1))), (6, .long (s64 (fun b => L 28 (s + i - b) * vD L t b) (i + 1))), (0, .ref (ad 7)), (1, .ref (ad 28)), (2, .int (nI (s))), (3, .int (nI (t))), (4, .int (nI (m)))]) dX3_lengthen_60 rfl rfl (by rw [hn]; decide) rfl ?_
          refine j_goto C 63 4 dX3_lengthen_63 (by decide) ?_
          refine j_ws (ws' := wd ad ro c Z (upR L 28 (vp_updL f (s + i) (s64 (fun b => L 28 (s + i - b) * vD L t b) (i + 1))))) (by rw [upR_upR]) ?_
          refine j_lv [0, 3, 4, 5, 6, 7] rfl (ih (vp_updL f (s + i) (s64 (fun b => L 28 (s + i - b) * vD L t b) (i + 1))) (by omega) (fun j => ?_) _ rfl)
          by_cases e : j = s + i
          · subst e
            rw [pk_uLs, if_pos ⟨by omega, by omega⟩, show s + i - s = i by omega]
          · rw [pk_uLn e, hf j]
            by_cases e2 : s + i ≤ j ∧ j ≤ s + m
            · rw [if_pos ⟨by omega, by omega⟩, if_pos e2]
            · rw [if_neg (by omega), if_neg e2]
        | succ q ihq =>
          intro b hq lv hlv
          refine j_lv [0, 1, 2, 3, 4, 5, 6, 7] hlv ?_
          refine j_iload C 15 0 dX3_lengthen_15 rfl ?_
          refine j_iload C 17 7 dX3_lengthen_17 rfl ?_
          refine j_icmp_gt_n C 19 52 (by omega) (by omega) dX3_lengthen_19 (by decide) (fun h => absurd h (by omega)) (fun _ => ?_)
          refine j_lload C 22 1 dX3_lengthen_22 rfl ?_
          refine j_aload_n C 24 3 dX3_lengthen_24 rfl rfl ?_
          refine j_iload_n C 25 4 dX3_lengthen_25 rfl rfl ?_
          refine j_iload C 26 7 dX3_lengthen_26 rfl ?_
          refine j_iadd_e C 28 dX3_lengthen_28 (nI_add _ _) ?_
          refine j_iload C 29 0 dX3_lengthen_29 rfl ?_
          refine j_isub_e C 31 dX3_lengthen_31 (pk_sub (by omega)) ?_
          refine j_lald C 32 28 2 (f := (upR L 28 f) 28) (wd_a28 ad ro c Z (upR L 28 f)) rfl (by omega) (by decide) dX3_lengthen_32 ?_
          refine j_eql (show f (s + i - b) = L 28 (s + i - b) by rw [hf, if_neg (by omega)]) ?_
          refine j_aload_n C 33 2 dX3_lengthen_33 rfl rfl ?_
          refine j_get C 34 (ci := 3) hL rfl 7 (wd_o7 ad ro c Z (upR L 28 f)) 2 (by decide) f11 rfl (v := .ref (ad 30)) rfl dX3_lengthen_34 ?_
          refine j_iload_n C 37 5 dX3_lengthen_37 rfl rfl ?_
          refine j_aald C 38 30 3 (wd_a30 ad ro c Z (upR L 28 f)) rfl rfl (by omega) (by decide) (if_pos (by omega)) dX3_lengthen_38 ?_
          refine j_iload C 39 0 dX3_lengthen_39 rfl ?_
          refine j_lald C 41 (31 + (t)) 2 (wd_r ad ro c Z (upR L 28 f) (i := t) (by omega)) rfl (by omega) (by decide) dX3_lengthen_41 ?_
          refine j_eql (show upR L 28 f (100 + t) b = vD L t b by rw [upR_ne _ _ (by omega)]) ?_
          refine j_lmul C 42 dX3_lengthen_42 ?_
          refine j_ladd C 43 dX3_lengthen_43 ?_
          refine j_lstore C 44 (lv' := [(6, .long ((s64 (fun b => L 28 (s + i - b) * vD L t b) b) + ((L 28 (s + i - b)) * (vD L t b)))), (8, .int (nI (b))), (0, .ref (ad 7)), (1, .ref (ad 28)), (2, .int (nI (s))), (3, .int (nI (t))), (4, .int (nI (m))), (5, .int (nI (i)))]) dX3_lengthen_44 (by rw [hn]; decide) rfl ?_
          refine j_iinc C 46 1 (v := (nI (b + 1))) (lv' := [(8, .int (nI (b + 1))), (6, .long ((s64 (fun b => L 28 (s + i - b) * vD L t b) b) + ((L 28 (s + i - b)) * (vD L t b)))), (0, .ref (ad 7)), (1, .ref (ad 28)), (2, .int (nI (s))), (3, .int (nI (t))), (4, .int (nI (m))), (5, .int (nI (i)))]) dX3_lengthen_46 rfl (nI_add (b) 1) (by rw [hn]; decide) rfl ?_
          refine j_goto C 49 15 dX3_lengthen_49 (by decide) ?_
          exact j_lv [0, 1, 2, 3, 4, 5, 6, 7] rfl (ihq (b + 1) (by omega) _ rfl)
      refine j_iload C 4 0 dX3_lengthen_4 rfl ?_
      refine j_if_lt_n C 6 66 (by omega) dX3_lengthen_6 (by decide) (fun h => absurd h (by omega)) (fun _ => ?_)
      refine j_lconst C 9 (v := lN 0) dX3_lengthen_9 rfl ?_
      refine j_lstore C 10 (lv' := [(6, .long (lN 0)), (5, .int (nI (i))), (0, .ref (ad 7)), (1, .ref (ad 28)), (2, .int (nI (s))), (3, .int (nI (t))), (4, .int (nI (m)))]) dX3_lengthen_10 (by rw [hn]; decide) rfl ?_
      refine j_iconst C 12 (v := nI 0) dX3_lengthen_12 rfl ?_
      refine j_istore C 13 (lv' := [(8, .int (nI (0))), (6, .long (lN 0)), (5, .int (nI (i))), (0, .ref (ad 7)), (1, .ref (ad 28)), (2, .int (nI (s))), (3, .int (nI (t))), (4, .int (nI (m)))]) dX3_lengthen_13 (by rw [hn]; decide) rfl ?_
      exact j_lv [0, 1, 3, 4, 5, 6, 7, 2] rfl (inner (i + 1) 0 (by omega) _ rfl)
  refine j_iload C 0 4 dX3_lengthen_0 rfl ?_
  refine j_istore C 2 (lv' := [(5, .int (nI (m))), (0, .ref (ad 7)), (1, .ref (ad 28)), (2, .int (nI (s))), (3, .int (nI (t))), (4, .int (nI (m)))]) dX3_lengthen_2 (by rw [hn]; decide) rfl ?_
  refine j_ws (ws' := wd ad ro c Z (upR L 28 (L 28))) (by rw [upR_self]) ?_
  refine j_lv [0, 1, 2, 3, 4, 5] rfl (loop (m + 1) (L 28) (Nat.le_refl _) (fun j => by rw [if_neg (by omega)]) _ (by rw [pk_m1]; rfl))
set_option maxHeartbeats 4000000 in
set_option maxRecDepth 100000 in
theorem c_X3_lengthen29 (ll : Launch) (D : va_G) (ad ro : Nat → Nat) (c : Nat → ClassId) (Z : ZT) (L : LT) (s t m : Nat) (ht : t < 48) (hm : m ≤ 16) (hs : s + m < 17) : cV (S := Nat → Int64) ll yX3_lengthen vsX3_lengthen ({ frames := 0, cells := 0, slots := 0, locals := 0 } : Room) D (tysG c) [.ref (ad 7), .ref (ad 29), .int (nI (s)), .int (nI (t)), .int (nI (m))] (wd ad ro c Z L) (fun f => wd ad ro c Z (upR L 29 f)) (fun f => ∀ j, f j = if s ≤ j ∧ j ≤ s + m then s64 (fun b => L 29 (j - b) * vD L t b) (j - s + 1) else L 29 j) 0 0 := by
  refine cV_start (cc := cX3_lengthen) (maxL := 9) RX3 rfl (by decide +kernel) rfl (Nat.le_of_ble_eq_true rfl) ?_
  intro κ hlκ C hr _ E hR hn
  subst hlκ
  have hL : ∀ w ∈ u_ws RX3 TX3 3, w.before (ja κ) (js κ) = true := fun w h => C.t w (mX3_lengthen_wsX30 w h)
  have f11 : (Cond.fieldLink RX3 11 "GuardedGrammar$Tally" (TX3 2).2.1 (TX3 2).2.2.1).before (ja κ) (js κ) = true := C.t (.fieldLink RX3 11 "GuardedGrammar$Tally" "words" "[[J") (mX3_lengthen_o _ (by decide +kernel))
  show J D κ 0 0 0 [(0, .ref (ad 7)), (1, .ref (ad 29)), (2, .int (nI (s))), (3, .int (nI (t))), (4, .int (nI (m)))] [] (wd ad ro c Z L)
  have loop : ∀ i (f : Nat → Int64), i ≤ m + 1 → (∀ j, f j = if s + i ≤ j ∧ j ≤ s + m then s64 (fun b => L 29 (j - b) * vD L t b) (j - s + 1) else L 29 j) → ∀ lv, lv_pick lv [0, 1, 2, 3, 4, 5] = [(5, .int (nI i + -1)), (0, .ref (ad 7)), (1, .ref (ad 29)), (2, .int (nI s)), (3, .int (nI t)), (4, .int (nI m))] → J D κ 0 0 4 lv [] (wd ad ro c Z (upR L 29 f)) := by
    intro i
    induction i with
    | zero =>
      intro f hi hf lv hlv
      refine j_lv [0, 1, 2, 3, 4, 5] hlv ?_
      refine j_iload C 4 0 dX3_lengthen_4 rfl ?_
      refine j_eqi (y := -1) (by decide) ?_
      refine j_if_lt C 6 66 dX3_lengthen_6 (by decide) (fun _ => ?_) (fun h => absurd (by decide) h)
      exact j_vreti C hr E (Nat.le_refl _) (Nat.le_refl _) f (fun j => by have q := hf j; rw [Nat.add_zero] at q; exact q) rfl dX3_lengthen_66
    | succ i ih =>
      intro f hi hf lv hlv
      rw [pk_m1] at hlv
      refine j_lv [0, 1, 2, 3, 4, 5] hlv ?_
      have inner : ∀ q b, q + b = i + 1 → ∀ lv, lv_pick lv [0, 1, 2, 3, 4, 5, 6, 7] = [(8, .int (nI (b))), (6, .long (s64 (fun b => L 29 (s + i - b) * vD L t b) b)), (0, .ref (ad 7)), (1, .ref (ad 29)), (2, .int (nI (s))), (3, .int (nI (t))), (4, .int (nI (m))), (5, .int (nI (i)))] → J D κ 0 0 15 lv [] (wd ad ro c Z (upR L 29 f)) := by
        intro q
        induction q with
        | zero =>
          intro b hq lv hlv
          obtain rfl : b = i + 1 := by omega
          refine j_lv [0, 1, 2, 3, 4, 5, 6, 7] hlv ?_
          refine j_iload C 15 0 dX3_lengthen_15 rfl ?_
          refine j_iload C 17 7 dX3_lengthen_17 rfl ?_
          refine j_icmp_gt_n C 19 52 (by omega) (by omega) dX3_lengthen_19 (by decide) (fun _ => ?_) (fun h => absurd h (by omega))
          refine j_aload_n C 52 3 dX3_lengthen_52 rfl rfl ?_
          refine j_iload_n C 53 4 dX3_lengthen_53 rfl rfl ?_
          refine j_iload C 54 7 dX3_lengthen_54 rfl ?_
          refine j_iadd_e C 56 dX3_lengthen_56 (nI_add _ _) ?_
          refine j_lload C 57 1 dX3_lengthen_57 rfl ?_
          refine j_last C 59 29 2 (f := f) (wd_a29 ad ro c Z (upR L 29 f)) rfl (by omega) (by decide) (wd_s29 ad ro c Z (upR L 29 f) (vp_updL (f) (s + i) (s64 (fun b => L 29 (s + i - b) * vD L t b) (i + 1)))) dX3_lengthen_59 ?_
          refine j_iinc C 60 7 (v := nI i + -1) (lv' := [(5, .int (nI i + -1)), (8, .int (nI (i + 1))), (6, .long (s64 (fun b => L 29 (s + i - b) * vD L t b) (i + 1))), (0, .ref (ad 7)), (1, .ref (ad 29)), (2, .int (nI (s))), (3, .int (nI (t))), (4, .int (nI (m)))]) dX3_lengthen_60 rfl rfl (by rw [hn]; decide) rfl ?_
          refine j_goto C 63 4 dX3_lengthen_63 (by decide) ?_
          refine j_ws (ws' := wd ad ro c Z (upR L 29 (vp_updL f (s + i) (s64 (fun b => L 29 (s + i - b) * vD L t b) (i + 1))))) (by rw [upR_upR]) ?_
          refine j_lv [0, 3, 4, 5, 6, 7] rfl (ih (vp_updL f (s + i) (s64 (fun b => L 29 (s + i - b) * vD L t b) (i + 1))) (by omega) (fun j => ?_) _ rfl)
          by_cases e : j = s + i
          · subst e
            rw [pk_uLs, if_pos ⟨by omega, by omega⟩, show s + i - s = i by omega]
          · rw [pk_uLn e, hf j]
            by_cases e2 : s + i ≤ j ∧ j ≤ s + m
            · rw [if_pos ⟨by omega, by omega⟩, if_pos e2]
            · rw [if_neg (by omega), if_neg e2]
        | succ q ihq =>
          intro b hq lv hlv
          refine j_lv [0, 1, 2, 3, 4, 5, 6, 7] hlv ?_
          refine j_iload C 15 0 dX3_lengthen_15 rfl ?_
          refine j_iload C 17 7 dX3_lengthen_17 rfl ?_
          refine j_icmp_gt_n C 19 52 (by omega) (by omega) dX3_lengthen_19 (by decide) (fun h => absurd h (by omega)) (fun _ => ?_)
          refine j_lload C 22 1 dX3_lengthen_22 rfl ?_
          refine j_aload_n C 24 3 dX3_lengthen_24 rfl rfl ?_
          refine j_iload_n C 25 4 dX3_lengthen_25 rfl rfl ?_
          refine j_iload C 26 7 dX3_lengthen_26 rfl ?_
          refine j_iadd_e C 28 dX3_lengthen_28 (nI_add _ _) ?_
          refine j_iload C 29 0 dX3_lengthen_29 rfl ?_
          refine j_isub_e C 31 dX3_lengthen_31 (pk_sub (by omega)) ?_
          refine j_lald C 32 29 2 (f := (upR L 29 f) 29) (wd_a29 ad ro c Z (upR L 29 f)) rfl (by omega) (by decide) dX3_lengthen_32 ?_
          refine j_eql (show f (s + i - b) = L 29 (s + i - b) by rw [hf, if_neg (by omega)]) ?_
          refine j_aload_n C 33 2 dX3_lengthen_33 rfl rfl ?_
          refine j_get C 34 (ci := 3) hL rfl 7 (wd_o7 ad ro c Z (upR L 29 f)) 2 (by decide) f11 rfl (v := .ref (ad 30)) rfl dX3_lengthen_34 ?_
          refine j_iload_n C 37 5 dX3_lengthen_37 rfl rfl ?_
          refine j_aald C 38 30 3 (wd_a30 ad ro c Z (upR L 29 f)) rfl rfl (by omega) (by decide) (if_pos (by omega)) dX3_lengthen_38 ?_
          refine j_iload C 39 0 dX3_lengthen_39 rfl ?_
          refine j_lald C 41 (31 + (t)) 2 (wd_r ad ro c Z (upR L 29 f) (i := t) (by omega)) rfl (by omega) (by decide) dX3_lengthen_41 ?_
          refine j_eql (show upR L 29 f (100 + t) b = vD L t b by rw [upR_ne _ _ (by omega)]) ?_
          refine j_lmul C 42 dX3_lengthen_42 ?_
          refine j_ladd C 43 dX3_lengthen_43 ?_
          refine j_lstore C 44 (lv' := [(6, .long ((s64 (fun b => L 29 (s + i - b) * vD L t b) b) + ((L 29 (s + i - b)) * (vD L t b)))), (8, .int (nI (b))), (0, .ref (ad 7)), (1, .ref (ad 29)), (2, .int (nI (s))), (3, .int (nI (t))), (4, .int (nI (m))), (5, .int (nI (i)))]) dX3_lengthen_44 (by rw [hn]; decide) rfl ?_
          refine j_iinc C 46 1 (v := (nI (b + 1))) (lv' := [(8, .int (nI (b + 1))), (6, .long ((s64 (fun b => L 29 (s + i - b) * vD L t b) b) + ((L 29 (s + i - b)) * (vD L t b)))), (0, .ref (ad 7)), (1, .ref (ad 29)), (2, .int (nI (s))), (3, .int (nI (t))), (4, .int (nI (m))), (5, .int (nI (i)))]) dX3_lengthen_46 rfl (nI_add (b) 1) (by rw [hn]; decide) rfl ?_
          refine j_goto C 49 15 dX3_lengthen_49 (by decide) ?_
          exact j_lv [0, 1, 2, 3, 4, 5, 6, 7] rfl (ihq (b + 1) (by omega) _ rfl)
      refine j_iload C 4 0 dX3_lengthen_4 rfl ?_
      refine j_if_lt_n C 6 66 (by omega) dX3_lengthen_6 (by decide) (fun h => absurd h (by omega)) (fun _ => ?_)
      refine j_lconst C 9 (v := lN 0) dX3_lengthen_9 rfl ?_
      refine j_lstore C 10 (lv' := [(6, .long (lN 0)), (5, .int (nI (i))), (0, .ref (ad 7)), (1, .ref (ad 29)), (2, .int (nI (s))), (3, .int (nI (t))), (4, .int (nI (m)))]) dX3_lengthen_10 (by rw [hn]; decide) rfl ?_
      refine j_iconst C 12 (v := nI 0) dX3_lengthen_12 rfl ?_
      refine j_istore C 13 (lv' := [(8, .int (nI (0))), (6, .long (lN 0)), (5, .int (nI (i))), (0, .ref (ad 7)), (1, .ref (ad 29)), (2, .int (nI (s))), (3, .int (nI (t))), (4, .int (nI (m)))]) dX3_lengthen_13 (by rw [hn]; decide) rfl ?_
      exact j_lv [0, 1, 3, 4, 5, 6, 7, 2] rfl (inner (i + 1) 0 (by omega) _ rfl)
  refine j_iload C 0 4 dX3_lengthen_0 rfl ?_
  refine j_istore C 2 (lv' := [(5, .int (nI (m))), (0, .ref (ad 7)), (1, .ref (ad 29)), (2, .int (nI (s))), (3, .int (nI (t))), (4, .int (nI (m)))]) dX3_lengthen_2 (by rw [hn]; decide) rfl ?_
  refine j_ws (ws' := wd ad ro c Z (upR L 29 (L 29))) (by rw [upR_self]) ?_
  refine j_lv [0, 1, 2, 3, 4, 5] rfl (loop (m + 1) (L 29) (Nat.le_refl _) (fun j => by rw [if_neg (by omega)]) _ (by rw [pk_m1]; rfl))
set_option maxHeartbeats 4000000 in
set_option maxRecDepth 100000 in
theorem c_X1_pileUp (ll : Launch) (D : va_G) (ad ro : Nat → Nat) (c : Nat → ClassId) (Z : ZT) (L : LT) {n : Nat} {τ : Tb} {root : Nat} (π : List Nat) (t r : Nat) (hwf : g_WF n τ) (hr2 : root < n) (hpi : g_ar (Z 24) 0 π) (hz : Z 48 0 = nI π.length) (hlt : π.length < 369) (hWY : g_WY τ root π r (L 28)) (hCN : g_CN τ root (r + 1) (vD L)) (ht : t ∈ g_P τ root) (hr16 : r ≤ 16) : cV (S := Nat → Int64) ll yX1_pileUp vsX1_pileUp ({ frames := 1, cells := 0, slots := 0, locals := 38 } : Room) D (tysG c) [.ref (ad 8), .int (nI (t)), .int (nI (r))] (wd ad ro c Z L) (fun f => wd ad ro c (upR (upR Z 24 (upd (Z 24) π.length (nI t))) 48 (fun _ => nI (π.length + 1))) (upR L 28 f)) (fun f => g_WY τ root (π ++ [t]) r f) 0 0 := by
  refine cV_start (cc := cX1_pileUp) (maxL := 4) RX1 rfl (by decide +kernel) rfl (Nat.le_of_ble_eq_true rfl) ?_
  intro κ hlκ C hr _ E hR hn
  subst hlκ
  have hL : ∀ w ∈ u_ws RX1 TX1 9, w.before (ja κ) (js κ) = true := fun w h => C.t w (mX1_pileUp_wsX10 w h)
  have f15 : (Cond.fieldLink RX1 15 "GuardedGrammar$Speller" (TX1 4).2.1 (TX1 4).2.2.1).before (ja κ) (js κ) = true := C.t (.fieldLink RX1 15 "GuardedGrammar$Speller" "height" "I") (mX1_pileUp_o _ (by decide +kernel))
  have f19 : (Cond.fieldLink RX1 19 "GuardedGrammar$Speller" (TX1 5).2.1 (TX1 5).2.2.1).before (ja κ) (js κ) = true := C.t (.fieldLink RX1 19 "GuardedGrammar$Speller" "ways" "[J") (mX1_pileUp_o _ (by decide +kernel))
  have f40 : (Cond.fieldLink RX1 40 "GuardedGrammar$Speller" (TX1 2).2.1 (TX1 2).2.2.1).before (ja κ) (js κ) = true := C.t (.fieldLink RX1 40 "GuardedGrammar$Speller" "tally" "LGuardedGrammar$Tally;") (mX1_pileUp_o _ (by decide +kernel))
  have f9 : (Cond.fieldLink RX1 9 "GuardedGrammar$Speller" (TX1 3).2.1 (TX1 3).2.2.1).before (ja κ) (js κ) = true := C.t (.fieldLink RX1 9 "GuardedGrammar$Speller" "pile" "[I") (mX1_pileUp_o _ (by decide +kernel))
  show J D κ 0 0 0 [(0, .ref (ad 8)), (1, .int (nI (t))), (2, .int (nI (r)))] [] (wd ad ro c Z L)
  have h48n := hwf.1
  have htn := g_P_lt hwf hr2 ht
  refine j_aload_n C 0 0 dX1_pileUp_0 rfl rfl ?_
  refine j_get C 1 (ci := 1) hL rfl 8 (wd_o8 ad ro c Z L) 4 (by decide) f15 rfl (v := .int (Z 48 0)) rfl dX1_pileUp_1 ?_
  refine j_eqi hz ?_
  refine j_sipush C 4 (v := nI 369) dX1_pileUp_4 rfl ?_
  refine j_icmp_lt_n C 7 11 (by omega) (by omega) dX1_pileUp_7 (by decide) (fun _ => ?_) (fun h => absurd h (by omega))
  refine j_aload_n C 11 0 dX1_pileUp_11 rfl rfl ?_
  refine j_get C 12 (ci := 1) hL rfl 8 (wd_o8 ad ro c Z L) 4 (by decide) f15 rfl (v := .int (Z 48 0)) rfl dX1_pileUp_12 ?_
  refine j_eqi hz ?_
  refine j_iconst C 15 (v := nI 1) dX1_pileUp_15 rfl ?_
  refine j_iadd_e C 16 dX1_pileUp_16 (nI_add _ _) ?_
  refine j_bipush C 17 (v := nI 17) dX1_pileUp_17 rfl ?_
  refine j_imul_e C 19 dX1_pileUp_19 (pk_mul _ _) ?_
  refine j_istore_n C 20 (lv' := [(3, .int (nI ((π.length + 1) * (17)))), (0, .ref (ad 8)), (1, .int (nI (t))), (2, .int (nI (r)))]) dX1_pileUp_20 rfl (by rw [hn]; decide) rfl ?_
  refine j_aload_n C 21 1 dX1_pileUp_21 rfl rfl ?_
  refine j_get C 22 (ci := 1) hL rfl 8 (wd_o8 ad ro c Z L) 5 (by decide) f19 rfl (v := .ref (ad 28)) rfl dX1_pileUp_22 ?_
  refine j_aload_n C 25 1 dX1_pileUp_25 rfl rfl ?_
  refine j_get C 26 (ci := 1) hL rfl 8 (wd_o8 ad ro c Z L) 4 (by decide) f15 rfl (v := .int (Z 48 0)) rfl dX1_pileUp_26 ?_
  refine j_eqi hz ?_
  refine j_bipush C 29 (v := nI 17) dX1_pileUp_29 rfl ?_
  refine j_imul_e C 31 dX1_pileUp_31 (pk_mul _ _) ?_
  refine j_aload_n C 32 1 dX1_pileUp_32 rfl rfl ?_
  refine j_get C 33 (ci := 1) hL rfl 8 (wd_o8 ad ro c Z L) 5 (by decide) f19 rfl (v := .ref (ad 28)) rfl dX1_pileUp_33 ?_
  refine j_iload_n C 36 0 dX1_pileUp_36 rfl rfl ?_
  refine j_iload_n C 37 3 dX1_pileUp_37 rfl rfl ?_
  refine j_iconst C 38 (v := nI 1) dX1_pileUp_38 rfl ?_
  refine j_iadd_e C 39 dX1_pileUp_39 (nI_add _ _) ?_
  refine j_copyl C 40 (C.t (.methodLink RX1 108 arraycopyName) (mX1_pileUp_o _ (by decide +kernel))) (C.t (.native arraycopyName) (mX1_pileUp_o _ (by decide +kernel))) (C.t (.static arraycopyName) (mX1_pileUp_o _ (by decide +kernel))) (C.t (.initialized "java/lang/System") (mX1_pileUp_o _ (by decide +kernel))) 28 28 2 (wd_a28 ad ro c Z L) (wd_a28 ad ro c Z L) rfl (sp := (π.length) * (17)) (dp := (π.length + 1) * (17)) (n := r + 1) (by omega) (by omega) (by omega) (by omega) (by omega) (by rw [hR]; exact ⟨Nat.le_of_ble_eq_true rfl, by decide +kernel⟩) dX1_pileUp_40 (wd_s28 ad ro c Z L (va_cpy (L 28) (L 28) ((π.length) * (17)) ((π.length + 1) * (17)) (r + 1))) ?_
  refine j_aload_n C 43 1 dX1_pileUp_43 rfl rfl ?_
  refine j_get C 44 (ci := 1) hL rfl 8 (wd_o8 ad ro c Z (upR L 28 ((va_cpy (L 28) (L 28) ((π.length) * (17)) ((π.length + 1) * (17)) (r + 1))))) 2 (by decide) f40 rfl (v := .ref (ad 7)) rfl dX1_pileUp_44 ?_
  refine j_aload_n C 47 1 dX1_pileUp_47 rfl rfl ?_
  refine j_get C 48 (ci := 1) hL rfl 8 (wd_o8 ad ro c Z (upR L 28 ((va_cpy (L 28) (L 28) ((π.length) * (17)) ((π.length + 1) * (17)) (r + 1))))) 5 (by decide) f19 rfl (v := .ref (ad 28)) rfl dX1_pileUp_48 ?_
  refine j_iload_n C 51 0 dX1_pileUp_51 rfl rfl ?_
  refine j_iload_n C 52 2 dX1_pileUp_52 rfl rfl ?_
  refine j_iload_n C 53 3 dX1_pileUp_53 rfl rfl ?_
  refine j_callV (mc := 0) (ms := 0) C 54 (c_X3_lengthen28 (jl κ) D ad ro c Z (upR L 28 ((va_cpy (L 28) (L 28) ((π.length) * (17)) ((π.length + 1) * (17)) (r + 1)))) ((π.length + 1) * (17)) (t) (r) (by omega) (by omega) (by omega)) gX1_pileUp_X3_lengthen rfl rfl rfl hd_X3_lengthen (by rw [hR]; exact ⟨Nat.le_of_ble_eq_true rfl, Nat.le_of_ble_eq_true rfl⟩) (ci := 3) rfl 7 (wd_o7 ad ro c Z (upR L 28 ((va_cpy (L 28) (L 28) ((π.length) * (17)) ((π.length + 1) * (17)) (r + 1))))) rfl (Nat.le_of_ble_eq_true rfl) ⟨Nat.zero_le _, Nat.zero_le _⟩ dX1_pileUp_54 (fun f54 q54 => ?_)
  refine j_ws (ws' := wd ad ro c Z (upR L 28 f54)) (by rw [upR_upR]) ?_
  refine j_aload_n C 57 1 dX1_pileUp_57 rfl rfl ?_
  refine j_get C 58 (ci := 1) hL rfl 8 (wd_o8 ad ro c Z (upR L 28 f54)) 3 (by decide) f9 rfl (v := .ref (ad 24)) rfl dX1_pileUp_58 ?_
  refine j_aload_n C 61 1 dX1_pileUp_61 rfl rfl ?_
  refine j_get C 62 (ci := 1) hL rfl 8 (wd_o8 ad ro c Z (upR L 28 f54)) 4 (by decide) f15 rfl (v := .int (Z 48 0)) rfl dX1_pileUp_62 ?_
  refine j_eqi hz ?_
  refine j_iload_n C 65 2 dX1_pileUp_65 rfl rfl ?_
  refine j_iast C 66 24 0 (f := Z 24) (wd_a24 ad ro c Z (upR L 28 f54)) rfl (by omega) (by decide) (wd_s24 ad ro c Z (upR L 28 f54) (upd (Z 24) (π.length) (nI (t)))) dX1_pileUp_66 ?_
  refine j_aload_n C 67 1 dX1_pileUp_67 rfl rfl ?_
  refine j_dup C 68 dX1_pileUp_68 rfl ?_
  refine j_get C 69 (ci := 1) hL rfl 8 (wd_o8 ad ro c (upR Z 24 (upd (Z 24) (π.length) (nI (t)))) (upR L 28 f54)) 4 (by decide) f15 rfl (v := .int (Z 48 0)) rfl dX1_pileUp_69 ?_
  refine j_eqi hz ?_
  refine j_iconst C 72 (v := nI 1) dX1_pileUp_72 rfl ?_
  refine j_iadd_e C 73 dX1_pileUp_73 (nI_add _ _) ?_
  refine j_put C 74 (ci := 1) hL tyX1_ok nmX1 rfl 8 (wd_o8 ad ro c (upR Z 24 (upd (Z 24) (π.length) (nI (t)))) (upR L 28 f54)) 4 (by decide) f15 rfl rfl (tyX1_ok 4 (by decide)) rfl rfl (Nat.le_of_ble_eq_true rfl) (wd_p48 ad ro c (upR Z 24 (upd (Z 24) (π.length) (nI (t)))) (upR L 28 f54) (nI (π.length + 1))) dX1_pileUp_74 ?_
  exact j_vreti C hr E (Nat.le_refl _) (Nat.le_refl _) f54 (g_WY_push hr16 hWY (fun j hj => by show upR L 28 _ (100 + t) j = _; rw [upR_ne _ _ (by omega)]; exact hCN t ht j (by omega)) q54) rfl dX1_pileUp_77
set_option maxHeartbeats 4000000 in
set_option maxRecDepth 100000 in
theorem c_X1_wordsAhead (ll : Launch) (D : va_G) (ad ro : Nat → Nat) (c : Nat → ClassId) (Z : ZT) (L : LT) {n : Nat} {τ : Tb} {root : Nat} (π φ : List Nat) (a r : Nat) (hwf : g_WF n τ) (hr2 : root < n) (hφ : g_ar (Z 25) 0 φ) (hzφ : Z 49 0 = nI φ.length) (hφ23 : φ.length ≤ 23) (hφP : ∀ u, u ∈ φ → u ∈ g_P τ root) (ha : a ≤ π.length) (hp369 : π.length ≤ 369) (hWY : g_WY τ root π r (L 28)) (hCN : g_CN τ root (r + 1) (vD L)) (hr16 : r ≤ 16) : cL (S := Nat → Int64) ll yX1_wordsAhead vsX1_wordsAhead ({ frames := 1, cells := 0, slots := 0, locals := 38 } : Room) D (tysG c) [.ref (ad 8), .int (nI (a)), .int (nI (r))] (wd ad ro c Z L) (fun f => wd ad ro c Z (upR L 29 f)) (fun x _ => x = lN (g_N τ root (φ.reverse ++ (π.take a).reverse) r)) 0 0 := by
  refine cL_start (cc := cX1_wordsAhead) (maxL := 4) RX1 rfl (by decide +kernel) rfl (Nat.le_of_ble_eq_true rfl) ?_
  intro κ hlκ C hr _ E hR hn
  subst hlκ
  have hL : ∀ w ∈ u_ws RX1 TX1 9, w.before (ja κ) (js κ) = true := fun w h => C.t w (mX1_wordsAhead_wsX10 w h)
  have f19 : (Cond.fieldLink RX1 19 "GuardedGrammar$Speller" (TX1 5).2.1 (TX1 5).2.2.1).before (ja κ) (js κ) = true := C.t (.fieldLink RX1 19 "GuardedGrammar$Speller" "ways" "[J") (mX1_wordsAhead_o _ (by decide +kernel))
  have f29 : (Cond.fieldLink RX1 29 "GuardedGrammar$Speller" (TX1 8).2.1 (TX1 8).2.2.1).before (ja κ) (js κ) = true := C.t (.fieldLink RX1 29 "GuardedGrammar$Speller" "ahead" "[J") (mX1_wordsAhead_o _ (by decide +kernel))
  have f26 : (Cond.fieldLink RX1 26 "GuardedGrammar$Speller" (TX1 7).2.1 (TX1 7).2.2.1).before (ja κ) (js κ) = true := C.t (.fieldLink RX1 26 "GuardedGrammar$Speller" "freshSize" "I") (mX1_wordsAhead_o _ (by decide +kernel))
  have f40 : (Cond.fieldLink RX1 40 "GuardedGrammar$Speller" (TX1 2).2.1 (TX1 2).2.2.1).before (ja κ) (js κ) = true := C.t (.fieldLink RX1 40 "GuardedGrammar$Speller" "tally" "LGuardedGrammar$Tally;") (mX1_wordsAhead_o _ (by decide +kernel))
  have f23 : (Cond.fieldLink RX1 23 "GuardedGrammar$Speller" (TX1 6).2.1 (TX1 6).2.2.1).before (ja κ) (js κ) = true := C.t (.fieldLink RX1 23 "GuardedGrammar$Speller" "fresh" "[I") (mX1_wordsAhead_o _ (by decide +kernel))
  show J D κ 0 0 0 [(0, .ref (ad 8)), (1, .int (nI (a))), (2, .int (nI (r)))] [] (wd ad ro c Z L)
  have h48n := hwf.1
  have loop : ∀ m i (f : Nat → Int64), m + i = φ.length → (∀ j, j ≤ r → f j = lN (g_N τ root ((φ.take (i)).reverse ++ (π.take a).reverse) j)) → ∀ lv, lv_pick lv [0, 1, 2, 3] = [(3, .int (nI i)), (0, .ref (ad 8)), (1, .int (nI a)), (2, .int (nI r))] → J D κ 0 0 21 lv [] (wd ad ro c Z (upR L 29 f)) := by
    intro m
    induction m with
    | zero =>
      intro i f hm hf lv hlv
      obtain rfl : i = φ.length := by omega
      refine j_lv [0, 1, 2, 3] hlv ?_
      refine j_iload_n C 21 0 dX1_wordsAhead_21 rfl rfl ?_
      refine j_aload_n C 22 1 dX1_wordsAhead_22 rfl rfl ?_
      refine j_get C 23 (ci := 1) hL rfl 8 (wd_o8 ad ro c Z (upR L 29 f)) 7 (by decide) f26 rfl (v := .int (Z 49 0)) rfl dX1_wordsAhead_23 ?_
      refine j_eqi hzφ ?_
      refine j_icmp_ge_n C 26 54 (by omega) (by omega) dX1_wordsAhead_26 (by decide) (fun _ => ?_) (fun h => absurd h (by omega))
      refine j_aload_n C 54 1 dX1_wordsAhead_54 rfl rfl ?_
      refine j_get C 55 (ci := 1) hL rfl 8 (wd_o8 ad ro c Z (upR L 29 f)) 8 (by decide) f29 rfl (v := .ref (ad 29)) rfl dX1_wordsAhead_55 ?_
      refine j_iload_n C 58 3 dX1_wordsAhead_58 rfl rfl ?_
      refine j_lald C 59 29 2 (f := f) (wd_a29 ad ro c Z (upR L 29 f)) rfl (by omega) (by decide) dX1_wordsAhead_59 ?_
      exact j_lreti C hr E (Nat.le_refl _) (Nat.le_refl _) f (by show f r = _; rw [hf r (Nat.le_refl _), List.take_length]) rfl dX1_wordsAhead_60
    | succ m ih =>
      intro i f hm hf lv hlv
      refine j_lv [0, 1, 2, 3] hlv ?_
      have hlt : i < φ.length := by omega
      obtain ⟨t, hu⟩ : ∃ t, t = φ[i] := ⟨_, rfl⟩
      have htP : t ∈ g_P τ root := hφP t (by rw [hu]; exact List.getElem_mem hlt)
      have htn := g_P_lt hwf hr2 htP
      have hfr : Z 25 i = nI t := by have q := hφ i hlt; rw [Nat.zero_add] at q; rw [hu]; exact q
      refine j_iload_n C 21 0 dX1_wordsAhead_21 rfl rfl ?_
      refine j_aload_n C 22 1 dX1_wordsAhead_22 rfl rfl ?_
      refine j_get C 23 (ci := 1) hL rfl 8 (wd_o8 ad ro c Z (upR L 29 f)) 7 (by decide) f26 rfl (v := .int (Z 49 0)) rfl dX1_wordsAhead_23 ?_
      refine j_eqi hzφ ?_
      refine j_icmp_ge_n C 26 54 (by omega) (by omega) dX1_wordsAhead_26 (by decide) (fun h => absurd h (by omega)) (fun _ => ?_)
      refine j_aload_n C 29 1 dX1_wordsAhead_29 rfl rfl ?_
      refine j_get C 30 (ci := 1) hL rfl 8 (wd_o8 ad ro c Z (upR L 29 f)) 2 (by decide) f40 rfl (v := .ref (ad 7)) rfl dX1_wordsAhead_30 ?_
      refine j_aload_n C 33 1 dX1_wordsAhead_33 rfl rfl ?_
      refine j_get C 34 (ci := 1) hL rfl 8 (wd_o8 ad ro c Z (upR L 29 f)) 8 (by decide) f29 rfl (v := .ref (ad 29)) rfl dX1_wordsAhead_34 ?_
      refine j_iconst C 37 (v := nI 0) dX1_wordsAhead_37 rfl ?_
      refine j_aload_n C 38 1 dX1_wordsAhead_38 rfl rfl ?_
      refine j_get C 39 (ci := 1) hL rfl 8 (wd_o8 ad ro c Z (upR L 29 f)) 6 (by decide) f23 rfl (v := .ref (ad 25)) rfl dX1_wordsAhead_39 ?_
      refine j_iload_n C 42 0 dX1_wordsAhead_42 rfl rfl ?_
      refine j_iald C 43 25 0 (f := Z 25) (wd_a25 ad ro c Z (upR L 29 f)) rfl (by omega) (by decide) dX1_wordsAhead_43 ?_
      refine j_eqi hfr ?_
      refine j_iload_n C 44 3 dX1_wordsAhead_44 rfl rfl ?_
      refine j_callV (mc := 0) (ms := 0) C 45 (c_X3_lengthen29 (jl κ) D ad ro c Z (upR L 29 f) (0) (t) (r) (by omega) (by omega) (by omega)) gX1_wordsAhead_X3_lengthen rfl rfl rfl hd_X3_lengthen (by rw [hR]; exact ⟨Nat.le_of_ble_eq_true rfl, Nat.le_of_ble_eq_true rfl⟩) (ci := 3) rfl 7 (wd_o7 ad ro c Z (upR L 29 f)) rfl (Nat.le_of_ble_eq_true rfl) ⟨Nat.zero_le _, Nat.zero_le _⟩ dX1_wordsAhead_45 (fun f45 q45 => ?_)
      refine j_ws (ws' := wd ad ro c Z (upR L 29 f45)) (by rw [upR_upR]) ?_
      refine j_iinc C 48 0 (v := (nI (i + 1))) (lv' := [(3, .int (nI (i + 1))), (0, .ref (ad 8)), (1, .int (nI (a))), (2, .int (nI (r)))]) dX1_wordsAhead_48 rfl (nI_add (i) 1) (by rw [hn]; decide) rfl ?_
      refine j_goto C 51 21 dX1_wordsAhead_51 (by decide) ?_
      refine j_lv [0, 1, 2, 3] rfl (ih (i + 1) f45 (by omega) (fun j hj => ?_) _ rfl)
      rw [show (φ.take (i + 1)).reverse ++ (π.take a).reverse = t :: ((φ.take i).reverse ++ (π.take a).reverse) by rw [List.take_add_one, List.getElem?_eq_getElem hlt, ← hu]; simp]
      rw [← g_len_cv (m := r) hf (c := vD L t) (fun j hj => hCN t htP j (by omega)) hj]
      have q := q45 j
      rw [if_pos ⟨Nat.zero_le _, by omega⟩] at q
      rw [q]
      apply s64_congr
      intro b hb
      show upR L 29 f 29 (j - b) * upR L 29 f (100 + t) b = f (j - b) * L (100 + t) b
      rw [upR_ne L f (show 100 + t ≠ 29 by omega)]
      rfl
  refine j_aload_n C 0 0 dX1_wordsAhead_0 rfl rfl ?_
  refine j_get C 1 (ci := 1) hL rfl 8 (wd_o8 ad ro c Z L) 5 (by decide) f19 rfl (v := .ref (ad 28)) rfl dX1_wordsAhead_1 ?_
  refine j_iload_n C 4 1 dX1_wordsAhead_4 rfl rfl ?_
  refine j_bipush C 5 (v := nI 17) dX1_wordsAhead_5 rfl ?_
  refine j_imul_e C 7 dX1_wordsAhead_7 (pk_mul _ _) ?_
  refine j_aload_n C 8 0 dX1_wordsAhead_8 rfl rfl ?_
  refine j_get C 9 (ci := 1) hL rfl 8 (wd_o8 ad ro c Z L) 8 (by decide) f29 rfl (v := .ref (ad 29)) rfl dX1_wordsAhead_9 ?_
  refine j_iconst C 12 (v := nI 0) dX1_wordsAhead_12 rfl ?_
  refine j_iload_n C 13 2 dX1_wordsAhead_13 rfl rfl ?_
  refine j_iconst C 14 (v := nI 1) dX1_wordsAhead_14 rfl ?_
  refine j_iadd_e C 15 dX1_wordsAhead_15 (nI_add _ _) ?_
  refine j_copyl C 16 (C.t (.methodLink RX1 108 arraycopyName) (mX1_wordsAhead_o _ (by decide +kernel))) (C.t (.native arraycopyName) (mX1_wordsAhead_o _ (by decide +kernel))) (C.t (.static arraycopyName) (mX1_wordsAhead_o _ (by decide +kernel))) (C.t (.initialized "java/lang/System") (mX1_wordsAhead_o _ (by decide +kernel))) 28 29 2 (wd_a28 ad ro c Z L) (wd_a29 ad ro c Z L) rfl (sp := (a) * (17)) (dp := 0) (n := r + 1) (by omega) (by omega) (by omega) (by omega) (by omega) (by rw [hR]; exact ⟨Nat.le_of_ble_eq_true rfl, by decide +kernel⟩) dX1_wordsAhead_16 (wd_s29 ad ro c Z L (va_cpy (L 28) (L 29) ((a) * (17)) (0) (r + 1))) ?_
  refine j_iconst C 19 (v := nI 0) dX1_wordsAhead_19 rfl ?_
  refine j_istore_n C 20 (lv' := [(3, .int (nI (0))), (0, .ref (ad 8)), (1, .int (nI (a))), (2, .int (nI (r)))]) dX1_wordsAhead_20 rfl (by rw [hn]; decide) rfl ?_
  refine j_lv [0, 1, 2, 3] rfl (loop φ.length 0 _ (by omega) (fun j hj => ?_) _ rfl)
  rw [pk_cpy_in (Nat.zero_le _) (by omega), Nat.sub_zero, hWY a ha j hj]
  simp
theorem g_ar_take {f : Nat → Int32} {off : Nat} {l : List Nat} (h : g_ar f off l) (a : Nat) : g_ar f off (l.take a) := fun j hj => by
  rw [List.length_take] at hj
  rw [List.getElem_take]
  exact h j (by omega)
set_option maxHeartbeats 4000000 in
set_option maxRecDepth 100000 in
theorem c_X1_takeFresh (ll : Launch) (D : va_G) (ad ro : Nat → Nat) (c : Nat → ClassId) (Z : ZT) (L : LT) {n : Nat} {τ : Tb} {root : Nat} (π φ : List Nat) (a r : Nat) (hwf : g_WF n τ) (hr2 : root < n) (hφ : g_ar (Z 25) 0 φ) (hzφ : Z 49 0 = nI φ.length) (hφ23 : φ.length ≤ 23) (hφP : ∀ u, u ∈ φ → u ∈ g_P τ root) (ha : a ≤ π.length) (hpi : g_ar (Z 24) 0 π) (hp369 : a + φ.length ≤ 369) (hWY : g_WY τ root π r (L 28)) (hCN : g_CN τ root (r + 1) (vD L)) (hr16 : r ≤ 16) : cV (S := ZT × LT) ll yX1_takeFresh vsX1_takeFresh ({ frames := 2, cells := 0, slots := 0, locals := 61 } : Room) D (tysG c) [.ref (ad 8), .int (nI (a)), .int (nI (r))] (wd ad ro c Z L) (fun u => wd ad ro c u.1 u.2) (fun u => g_ar (u.1 24) 0 (π.take a ++ φ) ∧ u.1 48 0 = nI (a + φ.length) ∧ g_WY τ root (π.take a ++ φ) r (u.2 28) ∧ g_fr [24, 48] Z u.1 ∧ g_fl [28] L u.2) 0 0 := by
  refine cV_start (cc := cX1_takeFresh) (maxL := 4) RX1 rfl (by decide +kernel) rfl (Nat.le_of_ble_eq_true rfl) ?_
  intro κ hlκ C hr _ E hR hn
  subst hlκ
  have hL : ∀ w ∈ u_ws RX1 TX1 9, w.before (ja κ) (js κ) = true := fun w h => C.t w (mX1_takeFresh_wsX10 w h)
  have f15 : (Cond.fieldLink RX1 15 "GuardedGrammar$Speller" (TX1 4).2.1 (TX1 4).2.2.1).before (ja κ) (js κ) = true := C.t (.fieldLink RX1 15 "GuardedGrammar$Speller" "height" "I") (mX1_takeFresh_o _ (by decide +kernel))
  have f26 : (Cond.fieldLink RX1 26 "GuardedGrammar$Speller" (TX1 7).2.1 (TX1 7).2.2.1).before (ja κ) (js κ) = true := C.t (.fieldLink RX1 26 "GuardedGrammar$Speller" "freshSize" "I") (mX1_takeFresh_o _ (by decide +kernel))
  have f23 : (Cond.fieldLink RX1 23 "GuardedGrammar$Speller" (TX1 6).2.1 (TX1 6).2.2.1).before (ja κ) (js κ) = true := C.t (.fieldLink RX1 23 "GuardedGrammar$Speller" "fresh" "[I") (mX1_takeFresh_o _ (by decide +kernel))
  show J D κ 0 0 0 [(0, .ref (ad 8)), (1, .int (nI (a))), (2, .int (nI (r)))] [] (wd ad ro c Z L)
  have h48n := hwf.1
  have hla : (π.take a).length = a := by rw [List.length_take]; omega
  have loop : ∀ m i (Z1 : ZT) (L1 : LT), m + i = φ.length → g_ar (Z1 24) 0 (π.take a ++ φ.take i) → Z1 48 0 = nI (a + i) → g_WY τ root (π.take a ++ φ.take i) r (L1 28) → g_fr [24, 48] Z Z1 → g_fl [28] L L1 → ∀ lv, lv_pick lv [0, 1, 2, 3] = [(3, .int (nI i)), (0, .ref (ad 8)), (1, .int (nI a)), (2, .int (nI r))] → J D κ 0 0 7 lv [] (wd ad ro c Z1 L1) := by
    intro m
    induction m with
    | zero =>
      intro i Z1 L1 hm h24 h48 hW hfr hfl lv hlv
      obtain rfl : i = φ.length := by omega
      rw [List.take_length] at h24 hW
      have hzf : Z1 49 0 = nI φ.length := (congrFun (hfr 49 (by decide)) 0).trans hzφ
      refine j_lv [0, 1, 2, 3] hlv ?_
      refine j_iload_n C 7 0 dX1_takeFresh_7 rfl rfl ?_
      refine j_aload_n C 8 1 dX1_takeFresh_8 rfl rfl ?_
      refine j_get C 9 (ci := 1) hL rfl 8 (wd_o8 ad ro c Z1 L1) 7 (by decide) f26 rfl (v := .int (Z1 49 0)) rfl dX1_takeFresh_9 ?_
      refine j_eqi hzf ?_
      refine j_icmp_ge_n C 12 32 (by omega) (by omega) dX1_takeFresh_12 (by decide) (fun _ => ?_) (fun h => absurd h (by omega))
      exact j_vreti C hr E (Nat.le_refl _) (Nat.le_refl _) (Z1, L1) ⟨h24, h48, hW, hfr, hfl⟩ rfl dX1_takeFresh_32
    | succ m ih =>
      intro i Z1 L1 hm h24 h48 hW hfr hfl lv hlv
      have hzf : Z1 49 0 = nI φ.length := (congrFun (hfr 49 (by decide)) 0).trans hzφ
      refine j_lv [0, 1, 2, 3] hlv ?_
      have hlt : i < φ.length := by omega
      obtain ⟨t, hu⟩ : ∃ t, t = φ[i] := ⟨_, rfl⟩
      have htP : t ∈ g_P τ root := hφP t (by rw [hu]; exact List.getElem_mem hlt)
      have hfe : Z1 25 i = nI t := by rw [hfr 25 (by decide)]; have q := hφ i hlt; rw [Nat.zero_add] at q; rw [hu]; exact q
      have hlen : (π.take a ++ φ.take i).length = a + i := by rw [List.length_append, hla, List.length_take]; omega
      have htk : φ.take (i + 1) = φ.take i ++ [t] := by rw [List.take_add_one, List.getElem?_eq_getElem hlt, ← hu]; rfl
      have hCN1 : g_CN τ root (r + 1) (vD L1) := fun u hu j hj => by
        show L1 (100 + u) j = _
        rw [hfl (100 + u) (by simp; omega)]
        exact hCN u hu j hj
      refine j_iload_n C 7 0 dX1_takeFresh_7 rfl rfl ?_
      refine j_aload_n C 8 1 dX1_takeFresh_8 rfl rfl ?_
      refine j_get C 9 (ci := 1) hL rfl 8 (wd_o8 ad ro c Z1 L1) 7 (by decide) f26 rfl (v := .int (Z1 49 0)) rfl dX1_takeFresh_9 ?_
      refine j_eqi hzf ?_
      refine j_icmp_ge_n C 12 32 (by omega) (by omega) dX1_takeFresh_12 (by decide) (fun h => absurd h (by omega)) (fun _ => ?_)
      refine j_aload_n C 15 1 dX1_takeFresh_15 rfl rfl ?_
      refine j_aload_n C 16 1 dX1_takeFresh_16 rfl rfl ?_
      refine j_get C 17 (ci := 1) hL rfl 8 (wd_o8 ad ro c Z1 L1) 6 (by decide) f23 rfl (v := .ref (ad 25)) rfl dX1_takeFresh_17 ?_
      refine j_iload_n C 20 0 dX1_takeFresh_20 rfl rfl ?_
      refine j_iald C 21 25 0 (f := Z1 25) (wd_a25 ad ro c Z1 L1) rfl (by omega) (by decide) dX1_takeFresh_21 ?_
      refine j_eqi hfe ?_
      refine j_iload_n C 22 3 dX1_takeFresh_22 rfl rfl ?_
      refine j_callV (mc := 0) (ms := 0) C 23 (c_X1_pileUp (jl κ) D ad ro c Z1 L1 (π.take a ++ φ.take i) t r hwf hr2 h24 (by rw [hlen]; exact h48) (by rw [hlen]; omega) hW hCN1 htP hr16) gX1_takeFresh_X1_pileUp rfl rfl rfl hd_X1_pileUp (by rw [hR]; exact ⟨Nat.le_of_ble_eq_true rfl, Nat.le_of_ble_eq_true rfl⟩) (ci := 1) rfl 8 (wd_o8 ad ro c Z1 L1) rfl (Nat.le_of_ble_eq_true rfl) ⟨Nat.zero_le _, Nat.zero_le _⟩ dX1_takeFresh_23 (fun f23 q23 => ?_)
      refine j_iinc C 26 0 (v := (nI (i + 1))) (lv' := [(3, .int (nI (i + 1))), (0, .ref (ad 8)), (1, .int (nI (a))), (2, .int (nI (r)))]) dX1_takeFresh_26 rfl (nI_add (i) 1) (by rw [hn]; decide) rfl ?_
      refine j_goto C 29 7 dX1_takeFresh_29 (by decide) ?_
      refine j_lv [0, 1, 2, 3] rfl (ih (i + 1) (upR (upR Z1 24 (upd (Z1 24) (π.take a ++ φ.take i).length (nI t))) 48 (fun _ => nI ((π.take a ++ φ.take i).length + 1))) (upR L1 28 f23) (by omega) ?_ ?_ ?_ (g_fr_up (g_fr_up hfr (by decide) _) (by decide) _) (g_fl_up hfl (by decide) _) _ rfl)
      · rw [htk, ← List.append_assoc]
        exact g_ar_push h24 rfl
      · show nI ((π.take a ++ φ.take i).length + 1) = _
        rw [hlen]; rfl
      · rw [htk, ← List.append_assoc]
        exact q23
  refine j_aload_n C 0 0 dX1_takeFresh_0 rfl rfl ?_
  refine j_iload_n C 1 1 dX1_takeFresh_1 rfl rfl ?_
  refine j_put C 2 (ci := 1) hL tyX1_ok nmX1 rfl 8 (wd_o8 ad ro c Z L) 4 (by decide) f15 rfl rfl (tyX1_ok 4 (by decide)) rfl rfl (Nat.le_of_ble_eq_true rfl) (wd_p48 ad ro c Z L (nI (a))) dX1_takeFresh_2 ?_
  refine j_iconst C 5 (v := nI 0) dX1_takeFresh_5 rfl ?_
  refine j_istore_n C 6 (lv' := [(3, .int (nI (0))), (0, .ref (ad 8)), (1, .int (nI (a))), (2, .int (nI (r)))]) dX1_takeFresh_6 rfl (by rw [hn]; decide) rfl ?_
  refine j_lv [0, 1, 2, 3] rfl (loop φ.length 0 (upR Z 48 (fun _ => nI (a))) L (by omega) ?_ rfl ?_ (g_fr_up g_fr_rfl (by decide) _) g_fl_rfl _ rfl)
  · simp only [List.take_zero, List.append_nil]
    exact g_ar_take hpi a
  · simp only [List.take_zero, List.append_nil]
    exact g_WY_take hWY ha
