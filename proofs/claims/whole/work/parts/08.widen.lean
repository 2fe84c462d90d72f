/-! contracts: Typing, widening -/
def g_ox (o : Option Nat) : Int32 := match o with | none => -1 | some k => nI k
def g_oq (S : TS) (o : Option Nat) : Bool × Nat × Nat := match o with | none => (false, 0, 0) | some k => S k
theorem b2_or {P Q : Prop} [Decidable P] [Decidable Q] : b2 (decide P || decide Q) = b2 (decide (P ∨ Q)) := by
  by_cases hp : P <;> by_cases hq : Q <;> simp [hp, hq]
theorem e_nm1 {a : Nat} (h : a < 2 ^ 31) : ¬ nI a = -1 := fun e => by
  have := congrArg Int32.toInt e
  rw [nI_toInt h] at this
  have e1 : (-1 : Int32).toInt = -1 := by decide
  omega
set_option maxHeartbeats 4000000 in
set_option maxRecDepth 100000 in
theorem c_X5_addTypeOf (ll : Launch) (D : va_G) (ad ro : Nat → Nat) (c : Nat → ClassId) (Z : ZT) (L : LT) {τ : Tb} {root : Nat} (S : TS) (t : Nat) (x : Int32) (o : Option Nat) (hY : g_YD τ root S Z) (ht : t ∈ g_P τ root) (h48 : ∀ u, u ∈ g_P τ root → u < 48) (hx : x = g_ox o) (ho : ∀ k, o = some k → k ∈ g_P τ root) : cI (S := ZT) ll yX5_addTypeOf vsX5_addTypeOf ({ frames := 1, cells := 0, slots := 0, locals := 25 } : Room) D (tysG c) [.ref (ad 2), .int (nI (t)), .int (x)] (wd ad ro c Z L) (fun Z' => wd ad ro c Z' L) (fun r Z' => g_wp τ root S t (g_oq S o) Z r Z') 0 0 := by
  refine cI_start (cc := cX5_addTypeOf) (maxL := 3) RX5 rfl (by decide +kernel) rfl (Nat.le_of_ble_eq_true rfl) ?_
  intro κ hlκ C hr _ E hR hn
  subst hlκ
  have hL : ∀ w ∈ u_ws RX5 TX5 9, w.before (ja κ) (js κ) = true := fun w h => C.t w (mX5_addTypeOf_wsX50 w h)
  have f25 : (Cond.fieldLink RX5 25 "GuardedGrammar$Typing" (TX5 5).2.1 (TX5 5).2.2.1).before (ja κ) (js κ) = true := C.t (.fieldLink RX5 25 "GuardedGrammar$Typing" "nullable" "[Z") (mX5_addTypeOf_o _ (by decide +kernel))
  have f28 : (Cond.fieldLink RX5 28 "GuardedGrammar$Typing" (TX5 6).2.1 (TX5 6).2.2.1).before (ja κ) (js κ) = true := C.t (.fieldLink RX5 28 "GuardedGrammar$Typing" "firsts" "[I") (mX5_addTypeOf_o _ (by decide +kernel))
  have f31 : (Cond.fieldLink RX5 31 "GuardedGrammar$Typing" (TX5 7).2.1 (TX5 7).2.2.1).before (ja κ) (js κ) = true := C.t (.fieldLink RX5 31 "GuardedGrammar$Typing" "afters" "[I") (mX5_addTypeOf_o _ (by decide +kernel))
  show J D κ 0 0 0 [(0, .ref (ad 2)), (1, .int (nI (t))), (2, .int (x))] [] (wd ad ro c Z L)
  have ht48 := h48 t ht
  cases o with
  | none =>
    change x = -1 at hx
    subst hx
    refine j_iload_n C 0 2 (x := -1) dX5_addTypeOf_0 rfl rfl ?_
    refine j_iconst C 1 (v := -1) dX5_addTypeOf_1 rfl ?_
    refine j_icmp_eq C 2 35 dX5_addTypeOf_2 (by decide) (fun _ => ?_) (fun h => absurd rfl h)
    refine j_iconst C 35 (v := nI 0) dX5_addTypeOf_35 rfl ?_
    exact j_ireti C hr E (Nat.le_refl _) (Nat.le_refl _) (by decide) Z (g_wp_no hY) rfl dX5_addTypeOf_36
  | some k =>
    change x = nI k at hx
    subst hx
    have hk := ho k rfl
    have hk48 := h48 k hk
    refine j_iload_n C 0 2 (x := nI k) dX5_addTypeOf_0 rfl rfl ?_
    refine j_iconst C 1 (v := -1) dX5_addTypeOf_1 rfl ?_
    refine j_icmp_eq C 2 35 dX5_addTypeOf_2 (by decide) (fun h => absurd h (e_nm1 (by omega))) (fun _ => ?_)
    refine j_aload_n C 5 0 dX5_addTypeOf_5 rfl rfl ?_
    refine j_iload_n C 6 1 dX5_addTypeOf_6 rfl rfl ?_
    refine j_aload_n C 7 0 dX5_addTypeOf_7 rfl rfl ?_
    refine j_get C 8 (ci := 5) hL rfl 2 (wd_o2 ad ro c Z L) 5 (by decide) f25 rfl (v := .ref (ad 19)) rfl dX5_addTypeOf_8 ?_
    refine j_iload_n C 11 2 dX5_addTypeOf_11 rfl rfl ?_
    refine j_zald C 12 19 1 (f := Z 19) (wd_a19 ad ro c Z L) rfl (by omega) (by decide) dX5_addTypeOf_12 ?_
    refine j_eqi (hY _ hk).1 ?_
    refine j_aload_n C 13 0 dX5_addTypeOf_13 rfl rfl ?_
    refine j_get C 14 (ci := 5) hL rfl 2 (wd_o2 ad ro c Z L) 6 (by decide) f28 rfl (v := .ref (ad 20)) rfl dX5_addTypeOf_14 ?_
    refine j_iload_n C 17 2 dX5_addTypeOf_17 rfl rfl ?_
    refine j_iald C 18 20 0 (f := Z 20) (wd_a20 ad ro c Z L) rfl (by omega) (by decide) dX5_addTypeOf_18 ?_
    refine j_eqi (hY _ hk).2.1 ?_
    refine j_aload_n C 19 0 dX5_addTypeOf_19 rfl rfl ?_
    refine j_get C 20 (ci := 5) hL rfl 2 (wd_o2 ad ro c Z L) 7 (by decide) f31 rfl (v := .ref (ad 21)) rfl dX5_addTypeOf_20 ?_
    refine j_iload_n C 23 2 dX5_addTypeOf_23 rfl rfl ?_
    refine j_iald C 24 21 0 (f := Z 21) (wd_a21 ad ro c Z L) rfl (by omega) (by decide) dX5_addTypeOf_24 ?_
    refine j_eqi (hY _ hk).2.2.1 ?_
    refine j_callI (mc := 0) (ms := 0) C 25 (c_X5_addToType (jl κ) D ad ro c Z L (t) (g_nu S (k)) (g_fi S (k)) (g_af S (k)) (g_nu S t) (g_fi S t) (g_af S t) (by omega) (hY t ht).1 (hY t ht).2.1 (hY t ht).2.2.1 (hY k hk).2.2.2.1 (hY k hk).2.2.2.2 (hY t ht).2.2.2.1 (hY t ht).2.2.2.2) gX5_addTypeOf_X5_addToType rfl rfl rfl hd_X5_addToType (by rw [hR]; exact ⟨Nat.le_of_ble_eq_true rfl, Nat.le_of_ble_eq_true rfl⟩) (ci := 5) rfl 2 (wd_o2 ad ro c Z L) rfl (Nat.le_of_ble_eq_true rfl) ⟨Nat.zero_le _, Nat.zero_le _⟩ dX5_addTypeOf_25 (fun r25 _ e25 => ?_)
    subst e25
    refine j_if_eq_b C 28 35 dX5_addTypeOf_28 (by decide) (fun h28 => ?_) (fun h28 => ?_)
    · refine j_iconst C 35 (v := nI 0) dX5_addTypeOf_35 rfl ?_
      exact j_ireti C hr E (Nat.le_refl _) (Nat.le_refl _) (by decide) (g_aT Z S t (S k)) (by have q := g_wp_add (q := S k) hY ht (hY k hk).2.2.2.1 (hY k hk).2.2.2.2; rw [h28] at q; exact q) rfl dX5_addTypeOf_36
    · refine j_iconst C 31 (v := nI 1) dX5_addTypeOf_31 rfl ?_
      refine j_goto C 32 36 dX5_addTypeOf_32 (by decide) ?_
      exact j_ireti C hr E (Nat.le_refl _) (Nat.le_refl _) (by decide) (g_aT Z S t (S k)) (by have q := g_wp_add (q := S k) hY ht (hY k hk).2.2.2.1 (hY k hk).2.2.2.2; rw [h28] at q; exact q) rfl dX5_addTypeOf_36
set_option maxHeartbeats 4000000 in
set_option maxRecDepth 100000 in
theorem c_X5_widenPair (ll : Launch) (D : va_G) (ad ro : Nat → Nat) (c : Nat → ClassId) (Z : ZT) (L : LT) {τ : Tb} {root : Nat} (S : TS) (t : Nat) (l r : Nat) (hY : g_YD τ root S Z) (ht : t ∈ g_P τ root) (h48 : ∀ u, u ∈ g_P τ root → u < 48) (hl : l ∈ g_P τ root) (hr2 : r ∈ g_P τ root) : cI (S := ZT) ll yX5_widenPair vsX5_widenPair ({ frames := 1, cells := 0, slots := 0, locals := 25 } : Room) D (tysG c) [.ref (ad 2), .int (nI (t)), .int (nI (l)), .int (nI (r))] (wd ad ro c Z L) (fun Z' => wd ad ro c Z' L) (fun r9 Z' => g_wp τ root S t (g_nu S l && g_nu S r, g_fi S l ||| (if g_nu S l then g_fi S r else 0), g_af S r ||| (if g_nu S r then g_fi S r ||| g_af S l else 0)) Z r9 Z') 0 0 := by
  refine cI_start (cc := cX5_widenPair) (maxL := 6) RX5 rfl (by decide +kernel) rfl (Nat.le_of_ble_eq_true rfl) ?_
  intro κ hlκ C hr _ E hR hn
  subst hlκ
  have hL : ∀ w ∈ u_ws RX5 TX5 9, w.before (ja κ) (js κ) = true := fun w h => C.t w (mX5_widenPair_wsX50 w h)
  have f28 : (Cond.fieldLink RX5 28 "GuardedGrammar$Typing" (TX5 6).2.1 (TX5 6).2.2.1).before (ja κ) (js κ) = true := C.t (.fieldLink RX5 28 "GuardedGrammar$Typing" "firsts" "[I") (mX5_widenPair_o _ (by decide +kernel))
  have f25 : (Cond.fieldLink RX5 25 "GuardedGrammar$Typing" (TX5 5).2.1 (TX5 5).2.2.1).before (ja κ) (js κ) = true := C.t (.fieldLink RX5 25 "GuardedGrammar$Typing" "nullable" "[Z") (mX5_widenPair_o _ (by decide +kernel))
  have f31 : (Cond.fieldLink RX5 31 "GuardedGrammar$Typing" (TX5 7).2.1 (TX5 7).2.2.1).before (ja κ) (js κ) = true := C.t (.fieldLink RX5 31 "GuardedGrammar$Typing" "afters" "[I") (mX5_widenPair_o _ (by decide +kernel))
  show J D κ 0 0 0 [(0, .ref (ad 2)), (1, .int (nI (t))), (2, .int (nI (l))), (3, .int (nI (r)))] [] (wd ad ro c Z L)
  have ht48 := h48 t ht
  have hl48 := h48 l hl
  have hr48 := h48 r hr2
  have hf1 : (g_fi S l ||| (if g_nu S l then g_fi S r else 0)) < 256 := e_or_lt (hY l hl).2.2.2.1 (by split; exact (hY r hr2).2.2.2.1; decide)
  have hf2 : (g_af S r ||| (if g_nu S r then g_fi S r ||| g_af S l else 0)) < 256 := e_or_lt (hY r hr2).2.2.2.2 (by split; exact e_or_lt (hY r hr2).2.2.2.1 (hY l hl).2.2.2.2; decide)
  have j88 : ∀ b : Bool, b = (g_nu S l && g_nu S r) → J D κ 0 0 88 [(5, .int (nI (g_af S r ||| (if g_nu S r then g_fi S r ||| g_af S l else 0)))), (4, .int (nI (g_fi S l ||| (if g_nu S l then g_fi S r else 0)))), (0, .ref (ad 2)), (1, .int (nI (t))), (2, .int (nI (l))), (3, .int (nI (r)))] [.int (b2 b), .int (nI t), .ref (ad 2)] (wd ad ro c Z L) := by
    intro b hb
    subst hb
    refine j_iload C 88 1 dX5_widenPair_88 rfl ?_
    refine j_iload C 90 0 dX5_widenPair_90 rfl ?_
    refine j_callI (mc := 0) (ms := 0) C 92 (c_X5_addToType (jl κ) D ad ro c Z L (t) (g_nu S l && g_nu S r) (g_fi S l ||| (if g_nu S l then g_fi S r else 0)) (g_af S r ||| (if g_nu S r then g_fi S r ||| g_af S l else 0)) (g_nu S t) (g_fi S t) (g_af S t) (by omega) (hY t ht).1 (hY t ht).2.1 (hY t ht).2.2.1 hf1 hf2 (hY t ht).2.2.2.1 (hY t ht).2.2.2.2) gX5_widenPair_X5_addToType rfl rfl rfl hd_X5_addToType (by rw [hR]; exact ⟨Nat.le_of_ble_eq_true rfl, Nat.le_of_ble_eq_true rfl⟩) (ci := 5) rfl 2 (wd_o2 ad ro c Z L) rfl (Nat.le_of_ble_eq_true rfl) ⟨Nat.zero_le _, Nat.zero_le _⟩ dX5_widenPair_92 (fun r92 _ e92 => ?_)
    subst e92
    exact j_ireti C hr E (Nat.le_refl _) (Nat.le_refl _) (zr_b _) (g_aT Z S t (g_nu S l && g_nu S r, g_fi S l ||| (if g_nu S l then g_fi S r else 0), g_af S r ||| (if g_nu S r then g_fi S r ||| g_af S l else 0))) (g_wp_add hY ht hf1 hf2) rfl dX5_widenPair_95
  have j61 : J D κ 0 0 61 [(4, .int (nI (g_fi S l ||| (if g_nu S l then g_fi S r else 0)))), (0, .ref (ad 2)), (1, .int (nI (t))), (2, .int (nI (l))), (3, .int (nI (r)))] [.int (nI (g_af S r ||| (if g_nu S r then g_fi S r ||| g_af S l else 0)))] (wd ad ro c Z L) := by
    refine j_istore C 61 (lv' := [(5, .int (nI (g_af S r ||| (if g_nu S r then g_fi S r ||| g_af S l else 0)))), (4, .int (nI (g_fi S l ||| (if g_nu S l then g_fi S r else 0)))), (0, .ref (ad 2)), (1, .int (nI (t))), (2, .int (nI (l))), (3, .int (nI (r)))]) dX5_widenPair_61 (by rw [hn]; decide) rfl ?_
    refine j_aload_n C 63 2 dX5_widenPair_63 rfl rfl ?_
    refine j_iload_n C 64 3 dX5_widenPair_64 rfl rfl ?_
    refine j_aload_n C 65 2 dX5_widenPair_65 rfl rfl ?_
    refine j_get C 66 (ci := 5) hL rfl 2 (wd_o2 ad ro c Z L) 5 (by decide) f25 rfl (v := .ref (ad 19)) rfl dX5_widenPair_66 ?_
    refine j_iload_n C 69 4 dX5_widenPair_69 rfl rfl ?_
    refine j_zald C 70 19 1 (f := Z 19) (wd_a19 ad ro c Z L) rfl (by omega) (by decide) dX5_widenPair_70 ?_
    refine j_eqi (hY _ hl).1 ?_
    refine j_if_eq_b C 71 87 dX5_widenPair_71 (by decide) (fun h71 => ?_) (fun h71 => ?_)
    · refine j_iconst C 87 (v := nI 0) dX5_widenPair_87 rfl ?_
      exact j88 false (by rw [h71, Bool.false_and])
    · refine j_aload_n C 74 2 dX5_widenPair_74 rfl rfl ?_
      refine j_get C 75 (ci := 5) hL rfl 2 (wd_o2 ad ro c Z L) 5 (by decide) f25 rfl (v := .ref (ad 19)) rfl dX5_widenPair_75 ?_
      refine j_iload_n C 78 5 dX5_widenPair_78 rfl rfl ?_
      refine j_zald C 79 19 1 (f := Z 19) (wd_a19 ad ro c Z L) rfl (by omega) (by decide) dX5_widenPair_79 ?_
      refine j_eqi (hY _ hr2).1 ?_
      refine j_if_eq_b C 80 87 dX5_widenPair_80 (by decide) (fun h80 => ?_) (fun h80 => ?_)
      · refine j_iconst C 87 (v := nI 0) dX5_widenPair_87 rfl ?_
        exact j88 false (by rw [h80, Bool.and_false])
      · refine j_iconst C 83 (v := nI 1) dX5_widenPair_83 rfl ?_
        refine j_goto C 84 88 dX5_widenPair_84 (by decide) ?_
        exact j88 true (by rw [h71, h80]; rfl)
  have j26 : J D κ 0 0 26 [(0, .ref (ad 2)), (1, .int (nI (t))), (2, .int (nI (l))), (3, .int (nI (r)))] [.int (nI (g_fi S l ||| (if g_nu S l then g_fi S r else 0)))] (wd ad ro c Z L) := by
    refine j_istore C 26 (lv' := [(4, .int (nI (g_fi S l ||| (if g_nu S l then g_fi S r else 0)))), (0, .ref (ad 2)), (1, .int (nI (t))), (2, .int (nI (l))), (3, .int (nI (r)))]) dX5_widenPair_26 (by rw [hn]; decide) rfl ?_
    refine j_aload_n C 28 1 dX5_widenPair_28 rfl rfl ?_
    refine j_get C 29 (ci := 5) hL rfl 2 (wd_o2 ad ro c Z L) 7 (by decide) f31 rfl (v := .ref (ad 21)) rfl dX5_widenPair_29 ?_
    refine j_iload_n C 32 4 dX5_widenPair_32 rfl rfl ?_
    refine j_iald C 33 21 0 (f := Z 21) (wd_a21 ad ro c Z L) rfl (by omega) (by decide) dX5_widenPair_33 ?_
    refine j_eqi (hY _ hr2).2.2.1 ?_
    refine j_aload_n C 34 1 dX5_widenPair_34 rfl rfl ?_
    refine j_get C 35 (ci := 5) hL rfl 2 (wd_o2 ad ro c Z L) 5 (by decide) f25 rfl (v := .ref (ad 19)) rfl dX5_widenPair_35 ?_
    refine j_iload_n C 38 4 dX5_widenPair_38 rfl rfl ?_
    refine j_zald C 39 19 1 (f := Z 19) (wd_a19 ad ro c Z L) rfl (by omega) (by decide) dX5_widenPair_39 ?_
    refine j_eqi (hY _ hr2).1 ?_
    refine j_if_eq_b C 40 59 dX5_widenPair_40 (by decide) (fun h40 => ?_) (fun h40 => ?_)
    · refine j_iconst C 59 (v := nI 0) dX5_widenPair_59 rfl ?_
      refine j_ior_e C 60 (z := nI (g_af S r ||| (if g_nu S r then g_fi S r ||| g_af S l else 0))) dX5_widenPair_60 (by rw [e_or, h40]; rfl) ?_
      exact j61
    · refine j_aload_n C 43 1 dX5_widenPair_43 rfl rfl ?_
      refine j_get C 44 (ci := 5) hL rfl 2 (wd_o2 ad ro c Z L) 6 (by decide) f28 rfl (v := .ref (ad 20)) rfl dX5_widenPair_44 ?_
      refine j_iload_n C 47 4 dX5_widenPair_47 rfl rfl ?_
      refine j_iald C 48 20 0 (f := Z 20) (wd_a20 ad ro c Z L) rfl (by omega) (by decide) dX5_widenPair_48 ?_
      refine j_eqi (hY _ hr2).2.1 ?_
      refine j_aload_n C 49 1 dX5_widenPair_49 rfl rfl ?_
      refine j_get C 50 (ci := 5) hL rfl 2 (wd_o2 ad ro c Z L) 7 (by decide) f31 rfl (v := .ref (ad 21)) rfl dX5_widenPair_50 ?_
      refine j_iload_n C 53 3 dX5_widenPair_53 rfl rfl ?_
      refine j_iald C 54 21 0 (f := Z 21) (wd_a21 ad ro c Z L) rfl (by omega) (by decide) dX5_widenPair_54 ?_
      refine j_eqi (hY _ hl).2.2.1 ?_
      refine j_ior_e C 55 (z := nI (g_fi S (r) ||| g_af S (l))) dX5_widenPair_55 (e_or _ _) ?_
      refine j_goto C 56 60 dX5_widenPair_56 (by decide) ?_
      refine j_ior_e C 60 (z := nI (g_af S r ||| (if g_nu S r then g_fi S r ||| g_af S l else 0))) dX5_widenPair_60 (by rw [e_or, h40]; rfl) ?_
      exact j61
  refine j_aload_n C 0 0 dX5_widenPair_0 rfl rfl ?_
  refine j_get C 1 (ci := 5) hL rfl 2 (wd_o2 ad ro c Z L) 6 (by decide) f28 rfl (v := .ref (ad 20)) rfl dX5_widenPair_1 ?_
  refine j_iload_n C 4 2 dX5_widenPair_4 rfl rfl ?_
  refine j_iald C 5 20 0 (f := Z 20) (wd_a20 ad ro c Z L) rfl (by omega) (by decide) dX5_widenPair_5 ?_
  refine j_eqi (hY _ hl).2.1 ?_
  refine j_aload_n C 6 0 dX5_widenPair_6 rfl rfl ?_
  refine j_get C 7 (ci := 5) hL rfl 2 (wd_o2 ad ro c Z L) 5 (by decide) f25 rfl (v := .ref (ad 19)) rfl dX5_widenPair_7 ?_
  refine j_iload_n C 10 2 dX5_widenPair_10 rfl rfl ?_
  refine j_zald C 11 19 1 (f := Z 19) (wd_a19 ad ro c Z L) rfl (by omega) (by decide) dX5_widenPair_11 ?_
  refine j_eqi (hY _ hl).1 ?_
  refine j_if_eq_b C 12 24 dX5_widenPair_12 (by decide) (fun h12 => ?_) (fun h12 => ?_)
  · refine j_iconst C 24 (v := nI 0) dX5_widenPair_24 rfl ?_
    refine j_ior_e C 25 (z := nI (g_fi S l ||| (if g_nu S l then g_fi S r else 0))) dX5_widenPair_25 (by rw [e_or, h12]; rfl) ?_
    exact j26
  · refine j_aload_n C 15 0 dX5_widenPair_15 rfl rfl ?_
    refine j_get C 16 (ci := 5) hL rfl 2 (wd_o2 ad ro c Z L) 6 (by decide) f28 rfl (v := .ref (ad 20)) rfl dX5_widenPair_16 ?_
    refine j_iload_n C 19 3 dX5_widenPair_19 rfl rfl ?_
    refine j_iald C 20 20 0 (f := Z 20) (wd_a20 ad ro c Z L) rfl (by omega) (by decide) dX5_widenPair_20 ?_
    refine j_eqi (hY _ hr2).2.1 ?_
    refine j_goto C 21 25 dX5_widenPair_21 (by decide) ?_
    refine j_ior_e C 25 (z := nI (g_fi S l ||| (if g_nu S l then g_fi S r else 0))) dX5_widenPair_25 (by rw [e_or, h12]; rfl) ?_
    exact j26
