/-! how the rows of the world hold the terms, what binds them, and their types -/
def g_fr (ks : List Nat) (Z Z' : ZT) : Prop := ∀ k, k ∉ ks → Z' k = Z k
theorem g_fr_rfl {ks : List Nat} {Z : ZT} : g_fr ks Z Z := fun _ _ => rfl
theorem g_fr_up {ks : List Nat} {Z Z' : ZT} (h : g_fr ks Z Z') {k : Nat} (hk : k ∈ ks) (f : Nat → Int32) : g_fr ks Z (upR Z' k f) := fun j hj => by
  have e : j ≠ k := fun e => hj (by rw [e]; exact hk)
  rw [upR_ne Z' f e]
  exact h j hj
theorem g_fr_trans {ks : List Nat} {Z Z' Z'' : ZT} (h : g_fr ks Z Z') (h2 : g_fr ks Z' Z'') : g_fr ks Z Z'' := fun j hj => (h2 j hj).trans (h j hj)
theorem g_fr_sub {ks ks' : List Nat} {Z Z' : ZT} (h : g_fr ks Z Z') (hs : ∀ k, k ∈ ks → k ∈ ks') : g_fr ks' Z Z' := fun j hj => h j (fun q => hj (hs j q))
/-- the terms below n in six rows: kind, value, parts, whole, knots -/
def g_E (n : Nat) (τ : Tb) (K V A B W Q : Nat → Int32) : Prop := ∀ t, t < n → K t = nI (g_kd τ t) ∧ (g_kd τ t = 2 ∨ g_kd τ t = 5 ∨ g_kd τ t = 6 → V t = nI (g_sg τ t)) ∧
  A t = (if g_kd τ t = 3 ∨ g_kd τ t = 4 ∨ g_kd τ t = 6 then nI (g_lf τ t) else -1) ∧ B t = (if g_kd τ t = 3 ∨ g_kd τ t = 4 then nI (g_rt τ t) else -1) ∧
  W t = (if g_ip τ t = 1 then nI (g_wh τ t) else -1) ∧ Q t = nI (τ 6 t) ∧ τ 6 t ≤ 3
abbrev g_ED (n : Nat) (τ : Tb) (Z : ZT) : Prop := g_E n τ (Z 9) (Z 10) (Z 11) (Z 12) (Z 13) (Z 14)
abbrev g_EM (n : Nat) (τ : Tb) (Z : ZT) : Prop := g_E n τ (Z 1) (Z 2) (Z 3) (Z 4) (Z 5) (Z 6)
/-- what binds: row b, and the guards: row g -/
def g_EB (τ : Tb) (root : Nat) (b g : Nat → Int32) : Prop := ∀ t, t ∈ g_P τ root → g_kd τ t = 5 → (∀ k, g_B τ root (g_sg τ t) t = some k → b t = nI k ∧ g t = b2 (g_G τ root (g_sg τ t) t)) ∧ (g_B τ root (g_sg τ t) t = none → b t = -1)
def g_EY (τ : Tb) (root : Nat) (S : TS) (N F A : Nat → Int32) : Prop := ∀ t, t ∈ g_P τ root → N t = b2 (g_nu S t) ∧ F t = nI (g_fi S t) ∧ A t = nI (g_af S t) ∧ g_fi S t < 256 ∧ g_af S t < 256
abbrev g_YD (τ : Tb) (root : Nat) (S : TS) (Z : ZT) : Prop := g_EY τ root S (Z 19) (Z 20) (Z 21)
abbrev g_BD (τ : Tb) (root : Nat) (Z : ZT) : Prop := g_EB τ root (Z 17) (Z 18)
def g_jn (p q : Bool × Nat × Nat) : Bool × Nat × Nat := (p.1 || q.1, p.2.1 ||| q.2.1, p.2.2 ||| q.2.2)
def g_upS (S : TS) (t : Nat) (q : Bool × Nat × Nat) : TS := fun u => if u = t then q else S u
theorem g_upS_same (S : TS) (t : Nat) (q : Bool × Nat × Nat) : g_upS S t q t = q := if_pos rfl
theorem g_upS_ne {S : TS} {t u : Nat} {q : Bool × Nat × Nat} (h : u ≠ t) : g_upS S t q u = S u := if_neg h
theorem e_upd_same (f : Nat → Int32) (k : Nat) (x : Int32) : upd f k x k = x := pk_us
theorem e_upd_ne (f : Nat → Int32) {k j : Nat} (x : Int32) (h : j ≠ k) : upd f k x j = f j := pk_un h
/-- the answer and the world behind a widening of t by q -/
def g_wp (τ : Tb) (root : Nat) (S : TS) (t : Nat) (q : Bool × Nat × Nat) (Z : ZT) (r : Int32) (Z' : ZT) : Prop := r = b2 (decide (g_jn (S t) q ≠ S t)) ∧ g_YD τ root (g_upS S t (g_jn (S t) q)) Z' ∧ g_fr [19, 20, 21] Z Z'
abbrev g_aT (Z : ZT) (S : TS) (t : Nat) (q : Bool × Nat × Nat) : ZT := upR (upR (upR Z 19 (upd (Z 19) t (b2 (g_nu S t || q.1)))) 20 (upd (Z 20) t (nI (g_fi S t ||| q.2.1)))) 21 (upd (Z 21) t (nI (g_af S t ||| q.2.2)))
theorem g_wp_add {τ : Tb} {root : Nat} {S : TS} {t : Nat} {q : Bool × Nat × Nat} {Z : ZT} (hY : g_YD τ root S Z) (ht : t ∈ g_P τ root) (h1 : q.2.1 < 256) (h2 : q.2.2 < 256) : g_wp τ root S t q Z (b2 (decide ((g_nu S t || q.1, g_fi S t ||| q.2.1, g_af S t ||| q.2.2) ≠ (g_nu S t, g_fi S t, g_af S t)))) (g_aT Z S t q) := by
  refine ⟨rfl, fun u hu => ?_, g_fr_up (g_fr_up (g_fr_up g_fr_rfl (by decide) _) (by decide) _) (by decide) _⟩
  have e19 : g_aT Z S t q 19 = upd (Z 19) t (b2 (g_nu S t || q.1)) := rfl
  have e20 : g_aT Z S t q 20 = upd (Z 20) t (nI (g_fi S t ||| q.2.1)) := rfl
  have e21 : g_aT Z S t q 21 = upd (Z 21) t (nI (g_af S t ||| q.2.2)) := rfl
  rw [e19, e20, e21]
  by_cases e : u = t
  · subst e
    rw [e_upd_same, e_upd_same, e_upd_same]
    have := hY u ht
    refine ⟨by rw [show g_nu (g_upS S u (g_jn (S u) q)) u = (g_jn (S u) q).1 by show (g_upS S u _ u).1 = _; rw [g_upS_same]]; rfl, by rw [show g_fi (g_upS S u (g_jn (S u) q)) u = (g_jn (S u) q).2.1 by show (g_upS S u _ u).2.1 = _; rw [g_upS_same]]; rfl, by rw [show g_af (g_upS S u (g_jn (S u) q)) u = (g_jn (S u) q).2.2 by show (g_upS S u _ u).2.2 = _; rw [g_upS_same]]; rfl, ?_, ?_⟩
    · rw [show g_fi (g_upS S u (g_jn (S u) q)) u = (g_jn (S u) q).2.1 by show (g_upS S u _ u).2.1 = _; rw [g_upS_same]]
      exact e_or_lt this.2.2.2.1 h1
    · rw [show g_af (g_upS S u (g_jn (S u) q)) u = (g_jn (S u) q).2.2 by show (g_upS S u _ u).2.2 = _; rw [g_upS_same]]
      exact e_or_lt this.2.2.2.2 h2
  · rw [e_upd_ne _ _ e, e_upd_ne _ _ e, e_upd_ne _ _ e]
    have := hY u hu
    have eS : g_upS S t (g_jn (S t) q) u = S u := g_upS_ne e
    show Z 19 u = b2 (g_upS S t (g_jn (S t) q) u).1 ∧ Z 20 u = nI (g_upS S t (g_jn (S t) q) u).2.1 ∧ Z 21 u = nI (g_upS S t (g_jn (S t) q) u).2.2 ∧ (g_upS S t (g_jn (S t) q) u).2.1 < 256 ∧ (g_upS S t (g_jn (S t) q) u).2.2 < 256
    rw [eS]
    exact this
theorem g_jn_0 (p : Bool × Nat × Nat) : g_jn p (false, 0, 0) = p := by simp [g_jn]
theorem g_jn_assoc (p q r : Bool × Nat × Nat) : g_jn (g_jn p q) r = g_jn p (g_jn q r) := by simp [g_jn, Bool.or_assoc, Nat.or_assoc]
theorem g_upS_upS (S : TS) (t : Nat) (p q : Bool × Nat × Nat) : g_upS (g_upS S t p) t q = g_upS S t q := by
  funext u
  unfold g_upS
  split <;> rfl
theorem g_upS_id (S : TS) (t : Nat) : g_upS S t (S t) = S := by
  funext u
  unfold g_upS
  split
  · rename_i e; rw [e]
  · rfl
theorem g_wp_no {τ : Tb} {root : Nat} {S : TS} {t : Nat} {Z : ZT} (hY : g_YD τ root S Z) : g_wp τ root S t (false, 0, 0) Z (b2 false) Z := by
  refine ⟨by rw [g_jn_0]; simp, ?_, g_fr_rfl⟩
  rw [g_jn_0, g_upS_id]
  exact hY
/-- two widenings one behind the other -/
theorem g_jn_le (p q : Bool × Nat × Nat) : g_le p (g_jn p q) := ⟨fun z => by show (p.1 || q.1) = true; rw [z]; rfl, g_or_l _ _, g_or_l _ _⟩
theorem g_jn_ne (p q r : Bool × Nat × Nat) : (g_jn (g_jn p q) r ≠ p) ↔ (g_jn p q ≠ p ∨ g_jn (g_jn p q) r ≠ g_jn p q) := by
  constructor
  · intro h
    by_cases e : g_jn p q = p
    · rw [e] at h ⊢
      exact Or.inr h
    · exact Or.inl e
  · rintro (h | h) e
    · exact h (g_le_anti (by have := g_jn_le (g_jn p q) r; rw [e] at this; exact this) (g_jn_le p q))
    · apply h
      rw [e]
      exact g_le_anti (g_jn_le p q) (by have := g_jn_le (g_jn p q) r; rw [e] at this; exact this)
