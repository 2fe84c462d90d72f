/-- a list of numbers in a row, from a place on -/
def g_ar (f : Nat → Int32) (off : Nat) (l : List Nat) : Prop := ∀ j (h : j < l.length), f (off + j) = nI l[j]
theorem g_ar_nil {f : Nat → Int32} {off : Nat} : g_ar f off [] := fun j h => by simp at h
theorem g_ar_push {f : Nat → Int32} {l : List Nat} {k x : Nat} (h : g_ar f 0 l) (hk : k = l.length) : g_ar (upd f k (nI x)) 0 (l ++ [x]) := by
  intro j hj
  rw [List.length_append] at hj
  by_cases e : j = l.length
  · subst e
    rw [Nat.zero_add, hk, e_upd_same, List.getElem_append_right (Nat.le_refl _)]
    simp
  · have hl : j < l.length := by simp at hj; omega
    rw [List.getElem_append_left hl, Nat.zero_add, e_upd_ne _ _ (by omega)]
    have := h j hl
    rw [Nat.zero_add] at this
    exact this
theorem g_ar_pop {f : Nat → Int32} {l : List Nat} {x : Nat} (h : g_ar f 0 (l ++ [x])) : g_ar f 0 l ∧ f l.length = nI x := by
  refine ⟨fun j hj => ?_, ?_⟩
  · have := h j (by simp; omega)
    rw [List.getElem_append_left hj] at this
    exact this
  · have := h l.length (by simp)
    rw [Nat.zero_add, List.getElem_append_right (Nat.le_refl _)] at this
    simpa using this
theorem g_ar_cons {f : Nat → Int32} {l : List Nat} {s x : Nat} (h : g_ar f (s + 1) l) : g_ar (upd f s (nI x)) s (x :: l) := by
  intro j hj
  cases j with
  | zero => rw [Nat.add_zero, e_upd_same]; rfl
  | succ j =>
    have hl : j < l.length := by simpa using hj
    rw [e_upd_ne _ _ (by omega)]
    have := h j hl
    rw [show s + 1 + j = s + (j + 1) by omega] at this
    simpa using this
theorem g_ar_congr {f g : Nat → Int32} {off : Nat} {l : List Nat} (h : g_ar f off l) (he : g = f) : g_ar g off l := by rw [he]; exact h
/-- the order of a term's terms in row 15, from the place in scalar 41 on -/
def g_EO (τ : Tb) (root : Nat) (Z : ZT) : Prop := Z 41 0 = nI (48 - (g_P τ root).length) ∧ g_ar (Z 15) (48 - (g_P τ root).length) (g_P τ root)
/-- what study() leaves -/
def g_ST (τ : Tb) (root : Nat) (Z : ZT) : Prop := g_EO τ root Z ∧ g_BD τ root Z ∧ g_LF τ root (g_T τ root) ∧ g_YD τ root (g_T τ root) Z
theorem g_len_flat {τ : Tb} {n : Nat} (h : g_WF n τ) : ∀ {l : List Nat}, (∀ u, u ∈ l → u < n) → l.length ≤ (l.flatMap (g_P τ)).length
  | [], _ => Nat.zero_le _
  | a :: l, hl => by
    have := g_len_flat h (l := l) (fun u hu => hl u (by simp [hu]))
    have := g_P_pos h (hl a (by simp))
    rw [List.flatMap_cons, List.length_append, List.length_cons]
    omega
theorem g_drop {l : List Nat} {k : Nat} (h : k < l.length) : l.drop k = l[k] :: l.drop (k + 1) := List.drop_eq_getElem_cons h
/-! how many letters and nullables types have -/
def g_bc (m : Nat) : Nat := g_sp (fun x => if m.testBit x then 1 else 0) 8
def g_bits (q : Bool × Nat × Nat) : Nat := (if q.1 then 1 else 0) + g_bc q.2.1 + g_bc q.2.2
theorem g_sp_mono {f g : Nat → Nat} : ∀ {i : Nat}, (∀ j, j < i → f j ≤ g j) → g_sp f i ≤ g_sp g i
  | 0, _ => Nat.le_refl _
  | i + 1, h => by
    show g_sp f i + f i ≤ g_sp g i + g i
    have := g_sp_mono (f := f) (g := g) (i := i) (fun j hj => h j (by omega))
    have := h i (by omega)
    omega
theorem g_sp_eq {f g : Nat → Nat} : ∀ {i : Nat}, (∀ j, j < i → f j ≤ g j) → g_sp g i ≤ g_sp f i → ∀ j, j < i → f j = g j
  | 0, _, _, j, hj => by omega
  | i + 1, h, he, j, hj => by
    have a := g_sp_mono (f := f) (g := g) (i := i) (fun j hj => h j (by omega))
    have b := h i (by omega)
    have c : g_sp g i + g i ≤ g_sp f i + f i := he
    by_cases e : j = i
    · subst e; omega
    · exact g_sp_eq (f := f) (g := g) (i := i) (fun j hj => h j (by omega)) (by omega) j (by omega)
theorem g_bc_le (m : Nat) : g_bc m ≤ 8 := by
  have := g_sp_le (f := fun x => if m.testBit x then 1 else 0) (B := 1) (i := 8) (fun j _ => by split <;> omega)
  unfold g_bc
  omega
theorem g_bc_mono {a b : Nat} (h : ∀ x, a.testBit x = true → b.testBit x = true) : g_bc a ≤ g_bc b := by
  apply g_sp_mono
  intro j _
  cases ha : a.testBit j with
  | false => simp
  | true => rw [h j ha]; simp
theorem g_bc_eq {a b : Nat} (ha : a < 256) (hb : b < 256) (h : ∀ x, a.testBit x = true → b.testBit x = true) (he : g_bc b ≤ g_bc a) : a = b := by
  have q := g_sp_eq (f := fun x => if a.testBit x then 1 else 0) (g := fun x => if b.testBit x then 1 else 0) (i := 8) (fun j _ => by
    cases ha : a.testBit j with
    | false => simp
    | true => rw [h j ha]; simp) he
  apply Nat.eq_of_testBit_eq
  intro x
  by_cases hx : x < 8
  · have := q x hx
    cases h1 : a.testBit x <;> cases h2 : b.testBit x <;> simp_all
  · have big : ∀ c, c < 256 → c.testBit x = false := fun c hc => Nat.testBit_lt_two_pow (Nat.lt_of_lt_of_le hc (by have : 2 ^ 8 ≤ 2 ^ x := Nat.pow_le_pow_right (by decide) (by omega); simpa using this))
    rw [big a ha, big b hb]
theorem g_bits_le (q : Bool × Nat × Nat) : g_bits q ≤ 17 := by
  have := g_bc_le q.2.1
  have := g_bc_le q.2.2
  unfold g_bits
  split <;> omega
theorem g_bits_mono {p q : Bool × Nat × Nat} (h : g_le p q) : g_bits p ≤ g_bits q := by
  have := g_bc_mono h.2.1
  have := g_bc_mono h.2.2
  unfold g_bits
  have h1 := h.1
  revert h1
  cases p.1 <;> cases q.1 <;> simp <;> omega
theorem g_bits_eq {p q : Bool × Nat × Nat} (h : g_le p q) (p1 : p.2.1 < 256) (p2 : p.2.2 < 256) (q1 : q.2.1 < 256) (q2 : q.2.2 < 256) (he : g_bits q ≤ g_bits p) : p = q := by
  have a := g_bc_mono h.2.1
  have b := g_bc_mono h.2.2
  unfold g_bits at he
  have h1 := h.1
  have c : p.1 = q.1 ∧ g_bc q.2.1 ≤ g_bc p.2.1 ∧ g_bc q.2.2 ≤ g_bc p.2.2 := by
    revert h1 he
    cases p.1 <;> cases q.1 <;> simp <;> omega
  have e1 := g_bc_eq p1 q1 h.2.1 c.2.1
  have e2 := g_bc_eq p2 q2 h.2.2 c.2.2
  obtain ⟨x, y, z⟩ := p
  obtain ⟨x', y', z'⟩ := q
  dsimp only at *
  rw [c.1, e1, e2]
theorem g_ls_mono {f g : Nat → Nat} : ∀ {l : List Nat}, (∀ u, u ∈ l → f u ≤ g u) → g_ls f l ≤ g_ls g l
  | [], _ => Nat.le_refl _
  | a :: l, h => by
    show f a + g_ls f l ≤ g a + g_ls g l
    have := g_ls_mono (f := f) (g := g) (l := l) (fun u hu => h u (by simp [hu]))
    have := h a (by simp)
    omega
theorem g_ls_lt {f g : Nat → Nat} {t : Nat} : ∀ {l : List Nat}, (∀ u, u ∈ l → f u ≤ g u) → t ∈ l → f t < g t → g_ls f l < g_ls g l
  | [], _, ht, _ => by cases ht
  | a :: l, h, ht, hlt => by
    show f a + g_ls f l < g a + g_ls g l
    have b := h a (by simp)
    by_cases e : t = a
    · subst e
      have := g_ls_mono (f := f) (g := g) (l := l) (fun u hu => h u (by simp [hu]))
      omega
    · have := g_ls_lt (f := f) (g := g) (l := l) (fun u hu => h u (by simp [hu])) ((List.mem_cons.mp ht).resolve_left e) hlt
      omega
theorem g_ls_le {f : Nat → Nat} {B : Nat} : ∀ {l : List Nat}, (∀ u, u ∈ l → f u ≤ B) → g_ls f l ≤ l.length * B
  | [], _ => by simp [g_ls]
  | a :: l, h => by
    show f a + g_ls f l ≤ (l.length + 1) * B
    have := g_ls_le (f := f) (B := B) (l := l) (fun u hu => h u (by simp [hu]))
    have := h a (by simp)
    rw [Nat.add_mul]
    omega
/-- how much the types of all in a term have -/
def g_cnt (τ : Tb) (root : Nat) (S : TS) : Nat := g_ls (fun t => g_bits (S t)) (g_P τ root)
theorem g_cnt_le {n : Nat} {τ : Tb} {root : Nat} (h : g_WF n τ) (hr : root < n) (S : TS) : g_cnt τ root S ≤ 816 := by
  have a := g_ls_le (f := fun t => g_bits (S t)) (B := 17) (l := g_P τ root) (fun u _ => g_bits_le (S u))
  have b := g_P_len h hr
  unfold g_cnt
  have : (g_P τ root).length * 17 ≤ 48 * 17 := Nat.mul_le_mul_right 17 b
  omega
theorem g_jn_256 {p q : Bool × Nat × Nat} (h1 : p.2.1 < 256) (h2 : p.2.2 < 256) (h3 : q.2.1 < 256) (h4 : q.2.2 < 256) : (g_jn p q).2.1 < 256 ∧ (g_jn p q).2.2 < 256 := ⟨e_or_lt h1 h3, e_or_lt h2 h4⟩
/-- a type that grows: more -/
theorem g_cnt_lt {n : Nat} {τ : Tb} {root : Nat} (h : g_WF n τ) (hr : root < n) {S : TS} {t : Nat} {q : Bool × Nat × Nat} (ht : t ∈ g_P τ root) (hle : g_le (S t) q) (hne : q ≠ S t) (h1 : g_fi S t < 256) (h2 : g_af S t < 256) (h3 : q.2.1 < 256) (h4 : q.2.2 < 256) : g_cnt τ root S < g_cnt τ root (g_upS S t q) := by
  unfold g_cnt
  apply g_ls_lt (t := t) _ ht
  · rw [g_upS_same]
    rcases Nat.lt_or_ge (g_bits (S t)) (g_bits q) with z | z
    · exact z
    · exact absurd (g_bits_eq hle h1 h2 h3 h4 z).symm hne
  · intro u hu
    by_cases e : u = t
    · subst e
      rw [g_upS_same]
      exact g_bits_mono hle
    · rw [g_upS_ne e]
      exact Nat.le_refl _
theorem g_low_up {n : Nat} {τ : Tb} {root : Nat} (h : g_WF n τ) (hr : root < n) {S : TS} {t : Nat} {q : Bool × Nat × Nat} (hl : g_low τ root S) (ht : t ∈ g_P τ root) (hq : ∀ X, g_cl τ root X → (∀ u, u ∈ g_P τ root → g_le (S u) (X u)) → g_le q (X t)) : g_low τ root (g_upS S t q) := by
  intro X hX u hu
  by_cases e : u = t
  · subst e
    rw [g_upS_same]
    exact hq X hX (fun v hv => hl X hX v hv)
  · rw [g_upS_ne e]
    exact hl X hX u hu
theorem g_jn_lub {p q r : Bool × Nat × Nat} (h1 : g_le p r) (h2 : g_le q r) : g_le (g_jn p q) r := ⟨fun z => by
  have z' : (p.1 || q.1) = true := z
  rw [Bool.or_eq_true] at z'
  exact z'.elim h1.1 h2.1, g_or_le h1.2.1 h2.2.1, g_or_le h1.2.2 h2.2.2⟩
theorem g_jn_r (p q : Bool × Nat × Nat) : g_le q (g_jn p q) := ⟨fun z => by show (p.1 || q.1) = true; rw [z, Bool.or_true], g_or_r _ _, g_or_r _ _⟩
theorem g_low_jn {n : Nat} {τ : Tb} {root : Nat} (h : g_WF n τ) (hr : root < n) {S : TS} {t : Nat} (hl : g_low τ root S) (ht : t ∈ g_P τ root) : g_low τ root (g_upS S t (g_jn (S t) (g_F τ root S t))) :=
  g_low_up h hr hl ht (fun X hX hle => g_jn_lub (hle t ht) (g_le_trans (g_F_mono h hr hle ht) (hX t ht)))
theorem g_low_0 {τ : Tb} {root : Nat} : g_low τ root (fun _ => (false, 0, 0)) := fun X _ t _ => ⟨fun z => (by cases z), fun x z => (by simp at z), fun x z => (by simp at z)⟩
theorem g_F_256 {n : Nat} {τ : Tb} {root : Nat} (h : g_WF n τ) (hr : root < n) {S : TS} (hl : g_low τ root S) {t : Nat} (ht : t ∈ g_P τ root) : (g_F τ root S t).2.1 < 256 ∧ (g_F τ root S t).2.2 < 256 := by
  have q := g_le_trans (g_F_mono h hr (fun u hu => hl _ (g_255 h hr) u hu) ht) (g_255 h hr t ht)
  exact ⟨g_lt256 q.2.1, g_lt256 q.2.2⟩
