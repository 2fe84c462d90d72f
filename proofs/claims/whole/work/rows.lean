section
/-! PURE: the terms as rows of whole numbers. τ 0 kind, τ 1 sign, τ 2 and τ 3 the parts, τ 4 of what it is a part, τ 5 whether it is one -/
abbrev Tb : Type := Nat → Nat → Nat
abbrev g_kd (τ : Tb) (t : Nat) : Nat := τ 0 t
abbrev g_sg (τ : Tb) (t : Nat) : Nat := τ 1 t
abbrev g_lf (τ : Tb) (t : Nat) : Nat := τ 2 t
abbrev g_rt (τ : Tb) (t : Nat) : Nat := τ 3 t
abbrev g_wh (τ : Tb) (t : Nat) : Nat := τ 4 t
abbrev g_ip (τ : Tb) (t : Nat) : Nat := τ 5 t
def g_ch (τ : Tb) (t : Nat) : List Nat := if g_kd τ t = 6 then [g_lf τ t] else if g_kd τ t = 3 ∨ g_kd τ t = 4 then [g_lf τ t, g_rt τ t] else []
def g_po (τ : Tb) : Nat → Nat → List Nat
  | 0, _ => []
  | f + 1, t => (g_ch τ t).flatMap (g_po τ f) ++ [t]
/-- what holds of the terms below n -/
def g_WF (n : Nat) (τ : Tb) : Prop :=
  n ≤ 48 ∧ ∀ t, t < n → g_kd τ t ≤ 6 ∧ (g_kd τ t = 2 → g_sg τ t < 8) ∧ (g_kd τ t = 5 ∨ g_kd τ t = 6 → g_sg τ t < 4) ∧
    (∀ c, c ∈ g_ch τ t → c < t ∧ g_ip τ c = 1 ∧ g_wh τ c = t) ∧ (g_kd τ t = 3 ∨ g_kd τ t = 4 → g_lf τ t ≠ g_rt τ t) ∧
    (g_ip τ t = 1 → t < g_wh τ t ∧ g_wh τ t < n ∧ t ∈ g_ch τ (g_wh τ t))
abbrev g_P (τ : Tb) (t : Nat) : List Nat := g_po τ 48 t
theorem g_flatMap_congr {α β : Type} {l : List α} {f g : α → List β} (h : ∀ a, a ∈ l → f a = g a) : l.flatMap f = l.flatMap g := by
  induction l with
  | nil => rfl
  | cons a l ih => rw [List.flatMap_cons, List.flatMap_cons, h a (by simp), ih (fun b hb => h b (by simp [hb]))]
section GT
variable {n : Nat} {τ : Tb}
theorem g_po_fuel (h : g_WF n τ) : ∀ t, t < n → ∀ f, t < f → g_po τ f t = g_po τ (t + 1) t := by
  intro t
  induction t using Nat.strongRecOn with
  | ind t ih =>
    intro ht f hf
    obtain ⟨f, rfl⟩ : ∃ k, f = k + 1 := ⟨f - 1, by omega⟩
    have hc := (h.2 t ht).2.2.2.1
    have e : ∀ k, t ≤ k → (g_ch τ t).flatMap (g_po τ k) = (g_ch τ t).flatMap (fun c => g_po τ (c + 1) c) := by
      intro k hk
      apply g_flatMap_congr
      intro c hcm
      have := hc c hcm
      exact ih c this.1 (by omega) k (by omega)
    show (g_ch τ t).flatMap (g_po τ f) ++ [t] = (g_ch τ t).flatMap (g_po τ t) ++ [t]
    rw [e f (by omega), e t (Nat.le_refl t)]
theorem g_P_eq (h : g_WF n τ) {t : Nat} (ht : t < n) : g_P τ t = (g_ch τ t).flatMap (g_P τ) ++ [t] := by
  have h48 := h.1
  have hc := (h.2 t ht).2.2.2.1
  have e : g_P τ t = (g_ch τ t).flatMap (g_po τ 47) ++ [t] := rfl
  rw [e]
  congr 1
  apply g_flatMap_congr
  intro c hcm
  have := hc c hcm
  show g_po τ 47 c = g_po τ 48 c
  rw [g_po_fuel h c (by omega) 47 (by omega), g_po_fuel h c (by omega) 48 (by omega)]
theorem g_P_self (h : g_WF n τ) {t : Nat} (ht : t < n) : t ∈ g_P τ t := by
  rw [g_P_eq h ht]; simp
theorem g_P_cases (h : g_WF n τ) {t u : Nat} (ht : t < n) (hu : u ∈ g_P τ t) : u = t ∨ ∃ c, c ∈ g_ch τ t ∧ u ∈ g_P τ c := by
  rw [g_P_eq h ht] at hu
  rcases List.mem_append.mp hu with hu | hu
  · exact Or.inr (List.mem_flatMap.mp hu)
  · exact Or.inl (List.mem_singleton.mp hu)
theorem g_P_child (h : g_WF n τ) {t c u : Nat} (ht : t < n) (hc : c ∈ g_ch τ t) (hu : u ∈ g_P τ c) : u ∈ g_P τ t := by
  rw [g_P_eq h ht]
  exact List.mem_append_left _ (List.mem_flatMap.mpr ⟨c, hc, hu⟩)
theorem g_P_le (h : g_WF n τ) : ∀ t, t < n → ∀ u, u ∈ g_P τ t → u ≤ t := by
  intro t
  induction t using Nat.strongRecOn with
  | ind t ih =>
    intro ht u hu
    rcases g_P_cases h ht hu with rfl | ⟨c, hc, hu⟩
    · exact Nat.le_refl _
    · have := (h.2 t ht).2.2.2.1 c hc
      have := ih c this.1 (by omega) u hu
      omega
theorem g_P_lt (h : g_WF n τ) {t u : Nat} (ht : t < n) (hu : u ∈ g_P τ t) : u < n := Nat.lt_of_le_of_lt (g_P_le h t ht u hu) ht
/-- the whole of what is in a term, but the term itself, is in it -/
theorem g_P_up (h : g_WF n τ) : ∀ t, t < n → ∀ u, u ∈ g_P τ t → u ≠ t → g_ip τ u = 1 ∧ g_wh τ u ∈ g_P τ t := by
  intro t
  induction t using Nat.strongRecOn with
  | ind t ih =>
    intro ht u hu hne
    rcases g_P_cases h ht hu with rfl | ⟨c, hc, hu⟩
    · exact absurd rfl hne
    · have hcc := (h.2 t ht).2.2.2.1 c hc
      by_cases huc : u = c
      · subst huc
        exact ⟨hcc.2.1, by rw [hcc.2.2]; exact g_P_self h ht⟩
      · obtain ⟨h1, h2⟩ := ih c hcc.1 (by omega) u hu huc
        exact ⟨h1, g_P_child h ht hc h2⟩
theorem g_P_down (h : g_WF n τ) {t c : Nat} : ∀ u, t < n → u ∈ g_P τ t → c ∈ g_ch τ u → c ∈ g_P τ t := by
  induction t using Nat.strongRecOn generalizing c with
  | ind t ih =>
    intro u ht hu hc
    rcases g_P_cases h ht hu with rfl | ⟨d, hd, hu⟩
    · have := (h.2 u ht).2.2.2.1 c hc
      exact g_P_child h ht hc (g_P_self h (by omega))
    · have := (h.2 t ht).2.2.2.1 d hd
      exact g_P_child h ht hd (ih d this.1 u (by omega) hu hc)
theorem g_P_trans (h : g_WF n τ) {t u v : Nat} (ht : t < n) (hu : u ∈ g_P τ t) (hv : v ∈ g_P τ u) : v ∈ g_P τ t := by
  induction t using Nat.strongRecOn with
  | ind t ih =>
    rcases g_P_cases h ht hu with rfl | ⟨d, hd, hu⟩
    · exact hv
    · have := (h.2 t ht).2.2.2.1 d hd
      exact g_P_child h ht hd (ih d this.1 (by omega) hu)
theorem g_P_cmp (h : g_WF n τ) {a b : Nat} (ha : a < n) (hb : b < n) : ∀ k u, n - u = k → u ∈ g_P τ a → u ∈ g_P τ b → a ∈ g_P τ b ∨ b ∈ g_P τ a := by
  intro k
  induction k using Nat.strongRecOn with
  | ind k ih =>
    intro u hk h1 h2
    by_cases e1 : u = a
    · subst e1; exact Or.inl h2
    by_cases e2 : u = b
    · subst e2; exact Or.inr h1
    have g1 := g_P_up h a ha u h1 e1
    have g2 := g_P_up h b hb u h2 e2
    have hu := g_P_lt h ha h1
    have g3 := (h.2 u hu).2.2.2.2.2 g1.1
    exact ih (n - g_wh τ u) (by omega) (g_wh τ u) rfl g1.2 g2.2
theorem g_ch_nodup (h : g_WF n τ) {t : Nat} (ht : t < n) : (g_ch τ t).Nodup := by
  have := (h.2 t ht).2.2.2.2.1
  unfold g_ch
  split
  · simp
  · split
    · rename_i h2
      simp [this h2]
    · simp
theorem g_flat_nodup {l : List Nat} {f : Nat → List Nat} (h1 : l.Nodup) (h2 : ∀ a, a ∈ l → (f a).Nodup) (h3 : ∀ a b u, a ∈ l → b ∈ l → u ∈ f a → u ∈ f b → a = b) : (l.flatMap f).Nodup := by
  induction l with
  | nil => simp
  | cons a l ih =>
    rw [List.flatMap_cons, List.nodup_append]
    rw [List.nodup_cons] at h1
    refine ⟨h2 a (by simp), ih h1.2 (fun b hb => h2 b (by simp [hb])) (fun b c u hb hc => h3 b c u (by simp [hb]) (by simp [hc])), ?_⟩
    intro x hx y hy hxy
    subst hxy
    obtain ⟨b, hb, hxb⟩ := List.mem_flatMap.mp hy
    have := h3 a b x (by simp) (by simp [hb]) hx hxb
    subst this
    exact h1.1 hb
theorem g_P_nodup (h : g_WF n τ) : ∀ t, t < n → (g_P τ t).Nodup := by
  intro t
  induction t using Nat.strongRecOn with
  | ind t ih =>
    intro ht
    have hc := (h.2 t ht).2.2.2.1
    rw [g_P_eq h ht, List.nodup_append]
    refine ⟨g_flat_nodup (g_ch_nodup h ht) (fun c hcm => ih c (hc c hcm).1 (by have := (hc c hcm).1; omega)) ?_, by simp, ?_⟩
    · intro a b u ha hb hua hub
      have qa := hc a ha
      have qb := hc b hb
      rcases g_P_cmp h (a := a) (b := b) (by omega) (by omega) _ u rfl hua hub with q | q
      · by_cases e : a = b
        · exact e
        · have := (g_P_up h b (by omega) a q e).2
          rw [qa.2.2] at this
          have := g_P_le h b (by omega) t this
          omega
      · by_cases e : b = a
        · exact e.symm
        · have := (g_P_up h a (by omega) b q e).2
          rw [qb.2.2] at this
          have := g_P_le h a (by omega) t this
          omega
    · intro x hx y hy hxy
      subst hxy
      rw [List.mem_singleton] at hy
      subst hy
      obtain ⟨c, hcm, hxc⟩ := List.mem_flatMap.mp hx
      have := hc c hcm
      have := g_P_le h c (by omega) x hxc
      omega
theorem g_nodup_len {l : List Nat} {N : Nat} (h1 : l.Nodup) (h2 : ∀ u, u ∈ l → u < N) : l.length ≤ N := by
  have := List.Nodup.length_le_of_subset h1 (l₂ := List.range N) (fun u hu => List.mem_range.mpr (h2 u hu))
  simpa using this
theorem g_P_len (h : g_WF n τ) {t : Nat} (ht : t < n) : (g_P τ t).length ≤ 48 := by
  have h48 := h.1
  exact g_nodup_len (g_P_nodup h t ht) (fun u hu => by have := g_P_lt h ht hu; omega)
theorem g_P_pos (h : g_WF n τ) {t : Nat} (ht : t < n) : 1 ≤ (g_P τ t).length := by
  rw [g_P_eq h ht]; simp
end GT
/-- what binds the variable v, seen from u, within root -/
def g_bd (τ : Tb) (root v : Nat) : Nat → Nat → Option Nat
  | 0, _ => none
  | f + 1, u => if u = root then none else if g_kd τ (g_wh τ u) = 6 ∧ g_sg τ (g_wh τ u) = v then some (g_wh τ u) else g_bd τ root v f (g_wh τ u)
/-- whether a second part of a pair lies on the way -/
def g_gd (τ : Tb) (root v : Nat) : Nat → Nat → Bool
  | 0, _ => false
  | f + 1, u => if u = root then false else (decide (g_kd τ (g_wh τ u) = 3 ∧ g_rt τ (g_wh τ u) = u) || (if g_kd τ (g_wh τ u) = 6 ∧ g_sg τ (g_wh τ u) = v then false else g_gd τ root v f (g_wh τ u)))
abbrev g_B (τ : Tb) (root v u : Nat) : Option Nat := g_bd τ root v 48 u
abbrev g_G (τ : Tb) (root v u : Nat) : Bool := g_gd τ root v 48 u
section GB
variable {n : Nat} {τ : Tb} {root : Nat}
theorem g_up (h : g_WF n τ) (hr : root < n) {u : Nat} (hu : u ∈ g_P τ root) (hne : u ≠ root) : u < g_wh τ u ∧ g_wh τ u < n ∧ g_wh τ u ∈ g_P τ root ∧ u ∈ g_ch τ (g_wh τ u) ∧ g_ip τ u = 1 ∧ g_wh τ u ≤ root := by
  obtain ⟨h1, h2⟩ := g_P_up h root hr u hu hne
  obtain ⟨h3, h4, h5⟩ := (h.2 u (g_P_lt h hr hu)).2.2.2.2.2 h1
  exact ⟨h3, h4, h2, h5, h1, g_P_le h root hr _ h2⟩
theorem g_bd_fuel (h : g_WF n τ) (hr : root < n) (v : Nat) : ∀ k u, u ∈ g_P τ root → root - u ≤ k → ∀ f, k < f → g_bd τ root v f u = g_bd τ root v (k + 1) u := by
  intro k
  induction k with
  | zero =>
    intro u hu hk f hf
    have := g_P_le h root hr u hu
    obtain ⟨f, rfl⟩ : ∃ m, f = m + 1 := ⟨f - 1, by omega⟩
    have e : u = root := by omega
    simp [g_bd, e]
  | succ k ih =>
    intro u hu hk f hf
    obtain ⟨f, rfl⟩ : ∃ m, f = m + 1 := ⟨f - 1, by omega⟩
    by_cases e : u = root
    · simp [g_bd, e]
    · obtain ⟨h1, h2, h3, -, -, h4⟩ := g_up h hr hu e
      have a1 := ih (g_wh τ u) h3 (by omega) f (by omega)
      show (if u = root then _ else _) = (if u = root then _ else _)
      rw [a1]
theorem g_gd_fuel (h : g_WF n τ) (hr : root < n) (v : Nat) : ∀ k u, u ∈ g_P τ root → root - u ≤ k → ∀ f, k < f → g_gd τ root v f u = g_gd τ root v (k + 1) u := by
  intro k
  induction k with
  | zero =>
    intro u hu hk f hf
    have := g_P_le h root hr u hu
    obtain ⟨f, rfl⟩ : ∃ m, f = m + 1 := ⟨f - 1, by omega⟩
    have e : u = root := by omega
    simp [g_gd, e]
  | succ k ih =>
    intro u hu hk f hf
    obtain ⟨f, rfl⟩ : ∃ m, f = m + 1 := ⟨f - 1, by omega⟩
    by_cases e : u = root
    · simp [g_gd, e]
    · obtain ⟨h1, h2, h3, -, -, h4⟩ := g_up h hr hu e
      have a1 := ih (g_wh τ u) h3 (by omega) f (by omega)
      show (if u = root then _ else _) = (if u = root then _ else _)
      rw [a1]
theorem g_B_eq (h : g_WF n τ) (hr : root < n) (v : Nat) {u : Nat} (hu : u ∈ g_P τ root) : g_B τ root v u = if u = root then none else if g_kd τ (g_wh τ u) = 6 ∧ g_sg τ (g_wh τ u) = v then some (g_wh τ u) else g_B τ root v (g_wh τ u) := by
  have h48 := h.1
  by_cases e : u = root
  · simp [g_B, g_bd, e]
  · obtain ⟨h1, h2, h3, -, -, h4⟩ := g_up h hr hu e
    have a1 := g_bd_fuel h hr v (root - g_wh τ u) (g_wh τ u) h3 (Nat.le_refl _) 47 (by omega)
    have a2 := g_bd_fuel h hr v (root - g_wh τ u) (g_wh τ u) h3 (Nat.le_refl _) 48 (by omega)
    show (if u = root then _ else if _ then _ else g_bd τ root v 47 (g_wh τ u)) = _
    rw [a1, ← a2]
theorem g_G_eq (h : g_WF n τ) (hr : root < n) (v : Nat) {u : Nat} (hu : u ∈ g_P τ root) : g_G τ root v u = if u = root then false else (decide (g_kd τ (g_wh τ u) = 3 ∧ g_rt τ (g_wh τ u) = u) || (if g_kd τ (g_wh τ u) = 6 ∧ g_sg τ (g_wh τ u) = v then false else g_G τ root v (g_wh τ u))) := by
  have h48 := h.1
  by_cases e : u = root
  · simp [g_G, g_gd, e]
  · obtain ⟨h1, h2, h3, -, -, h4⟩ := g_up h hr hu e
    have a1 := g_gd_fuel h hr v (root - g_wh τ u) (g_wh τ u) h3 (Nat.le_refl _) 47 (by omega)
    have a2 := g_gd_fuel h hr v (root - g_wh τ u) (g_wh τ u) h3 (Nat.le_refl _) 48 (by omega)
    show (if u = root then _ else (_ || (if _ then _ else g_gd τ root v 47 (g_wh τ u)))) = _
    rw [a1, ← a2]
/-- what binds is a knot round the variable, in the root -/
theorem g_B_some (h : g_WF n τ) (hr : root < n) {v k : Nat} : ∀ m u, u ∈ g_P τ root → root - u ≤ m → g_B τ root v u = some k → u < k ∧ g_kd τ k = 6 ∧ g_sg τ k = v ∧ k ∈ g_P τ root ∧ u ∈ g_P τ k := by
  intro m
  induction m with
  | zero =>
    intro u hu hm hb
    have := g_P_le h root hr u hu
    rw [g_B_eq h hr v hu, if_pos (by omega)] at hb
    cases hb
  | succ m ih =>
    intro u hu hm hb
    by_cases e : u = root
    · rw [g_B_eq h hr v hu, if_pos e] at hb
      cases hb
    · obtain ⟨h1, h2, h3, h5, -, h4⟩ := g_up h hr hu e
      rw [g_B_eq h hr v hu, if_neg e] at hb
      split at hb
      · rename_i hk
        cases hb
        exact ⟨h1, hk.1, hk.2, h3, g_P_child h h2 h5 (g_P_self h (g_P_lt h hr hu))⟩
      · obtain ⟨q1, q2, q3, q4, q5⟩ := ih (g_wh τ u) h3 (by omega) hb
        exact ⟨by omega, q2, q3, q4, g_P_down h (g_wh τ u) (g_P_lt h hr q4) q5 h5⟩
/-- one step up by an edge that is no second part: the guard lies further up -/
theorem g_step (h : g_WF n τ) (hr : root < n) {v k u : Nat} (hu : u ∈ g_P τ root) (hb : g_B τ root v u = some k) (hg : g_G τ root v u = true) (hne : ¬ (g_kd τ (g_wh τ u) = 3 ∧ g_rt τ (g_wh τ u) = u)) : u ≠ root ∧ g_wh τ u ∈ g_P τ root ∧ k ≠ g_wh τ u ∧ g_B τ root v (g_wh τ u) = some k ∧ g_G τ root v (g_wh τ u) = true := by
  by_cases e : u = root
  · rw [g_B_eq h hr v hu, if_pos e] at hb
    cases hb
  · obtain ⟨h1, h2, h3, h5, -, h4⟩ := g_up h hr hu e
    rw [g_B_eq h hr v hu, if_neg e] at hb
    rw [g_G_eq h hr v hu, if_neg e, decide_eq_false hne, Bool.false_or] at hg
    split at hg
    · cases hg
    · rename_i hk
      rw [if_neg hk] at hb
      refine ⟨e, h3, ?_, hb, hg⟩
      have := g_B_some h hr _ _ h3 (Nat.le_refl _) hb
      omega
end GB
/-- types: nullable, first, after -/
abbrev TS : Type := Nat → Bool × Nat × Nat
abbrev g_nu (S : TS) (t : Nat) : Bool := (S t).1
abbrev g_fi (S : TS) (t : Nat) : Nat := (S t).2.1
abbrev g_af (S : TS) (t : Nat) : Nat := (S t).2.2
def g_F (τ : Tb) (root : Nat) (S : TS) (t : Nat) : Bool × Nat × Nat :=
  if g_kd τ t = 0 then (true, 0, 0) else if g_kd τ t = 2 then (false, 2 ^ g_sg τ t, 0)
  else if g_kd τ t = 3 then (g_nu S (g_lf τ t) && g_nu S (g_rt τ t), g_fi S (g_lf τ t) ||| (if g_nu S (g_lf τ t) then g_fi S (g_rt τ t) else 0), g_af S (g_rt τ t) ||| (if g_nu S (g_rt τ t) then g_fi S (g_rt τ t) ||| g_af S (g_lf τ t) else 0))
  else if g_kd τ t = 4 then (g_nu S (g_lf τ t) || g_nu S (g_rt τ t), g_fi S (g_lf τ t) ||| g_fi S (g_rt τ t), g_af S (g_lf τ t) ||| g_af S (g_rt τ t))
  else if g_kd τ t = 5 then (match g_B τ root (g_sg τ t) t with | some k => S k | none => (false, 0, 0))
  else if g_kd τ t = 6 then S (g_lf τ t) else (false, 0, 0)
/-- a term that has a type, by the types S of all in it -/
def g_TY (τ : Tb) (root : Nat) (S : TS) : Prop :=
  (∀ t, t ∈ g_P τ root → S t = g_F τ root S t) ∧ (∀ t, t ∈ g_P τ root → g_fi S t < 256 ∧ g_af S t < 256) ∧
  ∀ t, t ∈ g_P τ root → (g_kd τ t = 5 → ∃ k, g_B τ root (g_sg τ t) t = some k ∧ g_G τ root (g_sg τ t) t = true) ∧
    (g_kd τ t = 3 → g_nu S (g_lf τ t) = false ∧ g_af S (g_lf τ t) &&& g_fi S (g_rt τ t) = 0) ∧
    (g_kd τ t = 4 → (g_nu S (g_lf τ t) && g_nu S (g_rt τ t)) = false ∧ g_fi S (g_lf τ t) &&& g_fi S (g_rt τ t) = 0)
/-- the jump measure: how far out the variables are bound that begin a term's words -/
def g_jm (τ : Tb) (root : Nat) : Nat → Nat → Nat
  | 0, _ => 0
  | f + 1, t => if g_kd τ t = 5 then 48 - (g_B τ root (g_sg τ t) t).getD 48 else if g_kd τ t = 4 then max (g_jm τ root f (g_lf τ t)) (g_jm τ root f (g_rt τ t)) else if g_kd τ t = 3 ∨ g_kd τ t = 6 then g_jm τ root f (g_lf τ t) else 0
abbrev g_J (τ : Tb) (root t : Nat) : Nat := g_jm τ root 48 t
abbrev g_rk (τ : Tb) (root t : Nat) : Nat := 49 * g_J τ root t + t
section GJ
variable {n : Nat} {τ : Tb} {root : Nat} {S : TS}
theorem g_ch4 {t : Nat} (hk : g_kd τ t = 3 ∨ g_kd τ t = 4) : g_ch τ t = [g_lf τ t, g_rt τ t] := by
  unfold g_ch
  rw [if_neg (by omega), if_pos hk]
theorem g_ch6 {t : Nat} (hk : g_kd τ t = 6) : g_ch τ t = [g_lf τ t] := by
  unfold g_ch
  rw [if_pos hk]
theorem g_lfP (h : g_WF n τ) (hr : root < n) {t : Nat} (ht : t ∈ g_P τ root) (hk : g_kd τ t = 3 ∨ g_kd τ t = 4 ∨ g_kd τ t = 6) : g_lf τ t ∈ g_P τ root ∧ g_lf τ t < t ∧ g_wh τ (g_lf τ t) = t ∧ g_lf τ t ∈ g_ch τ t := by
  have hm : g_lf τ t ∈ g_ch τ t := by
    rcases hk with hk | hk | hk
    · rw [g_ch4 (Or.inl hk)]; simp
    · rw [g_ch4 (Or.inr hk)]; simp
    · rw [g_ch6 hk]; simp
  have := (h.2 t (g_P_lt h hr ht)).2.2.2.1 _ hm
  exact ⟨g_P_down h t hr ht hm, this.1, this.2.2, hm⟩
theorem g_rtP (h : g_WF n τ) (hr : root < n) {t : Nat} (ht : t ∈ g_P τ root) (hk : g_kd τ t = 3 ∨ g_kd τ t = 4) : g_rt τ t ∈ g_P τ root ∧ g_rt τ t < t ∧ g_wh τ (g_rt τ t) = t ∧ g_rt τ t ∈ g_ch τ t := by
  have hm : g_rt τ t ∈ g_ch τ t := by rw [g_ch4 hk]; simp
  have := (h.2 t (g_P_lt h hr ht)).2.2.2.1 _ hm
  exact ⟨g_P_down h t hr ht hm, this.1, this.2.2, hm⟩
theorem g_jm_fuel (h : g_WF n τ) (hr : root < n) : ∀ t, t ∈ g_P τ root → ∀ f, t < f → g_jm τ root f t = g_jm τ root (t + 1) t := by
  intro t
  induction t using Nat.strongRecOn with
  | ind t ih =>
    intro ht f hf
    obtain ⟨f, rfl⟩ : ∃ k, f = k + 1 := ⟨f - 1, by omega⟩
    unfold g_jm
    by_cases h5 : g_kd τ t = 5
    · rw [if_pos h5, if_pos h5]
    rw [if_neg h5, if_neg h5]
    by_cases h4 : g_kd τ t = 4
    · rw [if_pos h4, if_pos h4]
      have a := g_lfP h hr ht (by omega)
      have b := g_rtP h hr ht (by omega)
      rw [ih _ a.2.1 a.1 f (by omega), ih _ a.2.1 a.1 t (by omega), ih _ b.2.1 b.1 f (by omega), ih _ b.2.1 b.1 t (by omega)]
    rw [if_neg h4, if_neg h4]
    by_cases h3 : g_kd τ t = 3 ∨ g_kd τ t = 6
    · rw [if_pos h3, if_pos h3]
      have a := g_lfP h hr ht (by omega)
      rw [ih _ a.2.1 a.1 f (by omega), ih _ a.2.1 a.1 t (by omega)]
    · rw [if_neg h3, if_neg h3]
theorem g_J_eq (h : g_WF n τ) (hr : root < n) {t : Nat} (ht : t ∈ g_P τ root) : g_J τ root t = if g_kd τ t = 5 then 48 - (g_B τ root (g_sg τ t) t).getD 48 else if g_kd τ t = 4 then max (g_J τ root (g_lf τ t)) (g_J τ root (g_rt τ t)) else if g_kd τ t = 3 ∨ g_kd τ t = 6 then g_J τ root (g_lf τ t) else 0 := by
  have h48 := h.1
  have e : ∀ c, c ∈ g_P τ root → c < t → g_jm τ root 47 c = g_jm τ root 48 c := fun c hc hlt => by
    have := g_P_lt h hr ht
    rw [g_jm_fuel h hr c hc 47 (by omega), g_jm_fuel h hr c hc 48 (by omega)]
  show g_jm τ root (47 + 1) t = _
  conv => lhs; unfold g_jm
  by_cases h5 : g_kd τ t = 5
  · rw [if_pos h5, if_pos h5]
  rw [if_neg h5, if_neg h5]
  by_cases h4 : g_kd τ t = 4
  · rw [if_pos h4, if_pos h4]
    have a := g_lfP h hr ht (by omega)
    have b := g_rtP h hr ht (by omega)
    rw [e _ a.1 a.2.1, e _ b.1 b.2.1]
  rw [if_neg h4, if_neg h4]
  by_cases h3 : g_kd τ t = 3 ∨ g_kd τ t = 6
  · rw [if_pos h3, if_pos h3]
    have a := g_lfP h hr ht (by omega)
    rw [e _ a.1 a.2.1]
  · rw [if_neg h3, if_neg h3]
/-- the jump measure is 0, or that of a variable that is bound, and guarded, above -/
theorem g_J_var (h : g_WF n τ) (hr : root < n) (hT : g_TY τ root S) : ∀ t, t ∈ g_P τ root → g_J τ root t = 0 ∨ ∃ v k, g_B τ root v t = some k ∧ g_G τ root v t = true ∧ g_J τ root t = 48 - k := by
  intro t
  induction t using Nat.strongRecOn with
  | ind t ih =>
    intro ht
    have go : ∀ c, c ∈ g_P τ root → c < t → g_wh τ c = t → ¬ (g_kd τ t = 3 ∧ g_rt τ t = c) → (∃ v k, g_B τ root v c = some k ∧ g_G τ root v c = true ∧ g_J τ root c = 48 - k) → ∃ v k, g_B τ root v t = some k ∧ g_G τ root v t = true ∧ g_J τ root c = 48 - k := by
      intro c hc hlt hw hne ⟨v, k, h1, h2, h3⟩
      obtain ⟨-, -, -, q1, q2⟩ := g_step h hr hc h1 h2 (by rw [hw]; exact hne)
      rw [hw] at q1 q2
      exact ⟨v, k, q1, q2, h3⟩
    rw [g_J_eq h hr ht]
    by_cases h5 : g_kd τ t = 5
    · rw [if_pos h5]
      obtain ⟨k, h1, h2⟩ := (hT.2.2 t ht).1 h5
      exact Or.inr ⟨_, k, h1, h2, by rw [h1]; rfl⟩
    rw [if_neg h5]
    by_cases h4 : g_kd τ t = 4
    · rw [if_pos h4]
      have a := g_lfP h hr ht (by omega)
      have b := g_rtP h hr ht (by omega)
      rcases Nat.le_total (g_J τ root (g_lf τ t)) (g_J τ root (g_rt τ t)) with hle | hle
      · rw [Nat.max_eq_right hle]
        rcases ih _ b.2.1 b.1 with z | z
        · exact Or.inl z
        · exact Or.inr (go _ b.1 b.2.1 b.2.2.1 (by omega) z)
      · rw [Nat.max_eq_left hle]
        rcases ih _ a.2.1 a.1 with z | z
        · exact Or.inl z
        · exact Or.inr (go _ a.1 a.2.1 a.2.2.1 (by omega) z)
    rw [if_neg h4]
    by_cases h3 : g_kd τ t = 3 ∨ g_kd τ t = 6
    · rw [if_pos h3]
      have a := g_lfP h hr ht (by omega)
      rcases ih _ a.2.1 a.1 with z | z
      · exact Or.inl z
      · refine Or.inr (go _ a.1 a.2.1 a.2.2.1 ?_ z)
        rintro ⟨e1, e2⟩
        exact (h.2 t (g_P_lt h hr ht)).2.2.2.2.1 (Or.inl e1) e2.symm
    · rw [if_neg h3]
      exact Or.inl rfl
theorem g_J_lt (h : g_WF n τ) (hr : root < n) (hT : g_TY τ root S) {t : Nat} (ht : t ∈ g_P τ root) : g_J τ root t < 48 - t := by
  have h48 := h.1
  have := g_P_lt h hr ht
  rcases g_J_var h hr hT t ht with z | ⟨v, k, h1, -, h3⟩
  · omega
  · have q := g_B_some h hr _ _ ht (Nat.le_refl _) h1
    have := g_P_lt h hr q.2.2.2.1
    omega
/-- rank falls by every edge that begins a term's words -/
theorem g_rk_var (h : g_WF n τ) (hr : root < n) (hT : g_TY τ root S) {t k : Nat} (ht : t ∈ g_P τ root) (h5 : g_kd τ t = 5) (hb : g_B τ root (g_sg τ t) t = some k) : k ∈ g_P τ root ∧ g_J τ root k < g_J τ root t ∧ g_rk τ root k < g_rk τ root t := by
  have h48 := h.1
  have q := g_B_some h hr _ _ ht (Nat.le_refl _) hb
  have j := g_J_lt h hr hT q.2.2.2.1
  have e : g_J τ root t = 48 - k := by rw [g_J_eq h hr ht, if_pos h5, hb]; rfl
  have := g_P_lt h hr q.2.2.2.1
  refine ⟨q.2.2.2.1, by omega, ?_⟩
  show 49 * g_J τ root k + k < 49 * g_J τ root t + t
  omega
theorem g_rk_lf (h : g_WF n τ) (hr : root < n) {t : Nat} (ht : t ∈ g_P τ root) (hk : g_kd τ t = 3 ∨ g_kd τ t = 4 ∨ g_kd τ t = 6) : g_J τ root (g_lf τ t) ≤ g_J τ root t ∧ g_rk τ root (g_lf τ t) < g_rk τ root t := by
  have a := g_lfP h hr ht hk
  have e : g_J τ root (g_lf τ t) ≤ g_J τ root t := by
    rw [g_J_eq h hr ht, if_neg (by omega)]
    split
    · exact Nat.le_max_left _ _
    · rw [if_pos (by omega)]
      exact Nat.le_refl _
  exact ⟨e, by show 49 * g_J τ root (g_lf τ t) + g_lf τ t < 49 * g_J τ root t + t; omega⟩
theorem g_rk_rt (h : g_WF n τ) (hr : root < n) {t : Nat} (ht : t ∈ g_P τ root) (hk : g_kd τ t = 4) : g_J τ root (g_rt τ t) ≤ g_J τ root t ∧ g_rk τ root (g_rt τ t) < g_rk τ root t := by
  have a := g_rtP h hr ht (Or.inr hk)
  have e : g_J τ root (g_rt τ t) ≤ g_J τ root t := by
    rw [g_J_eq h hr ht, if_neg (by omega), if_pos hk]
    exact Nat.le_max_right _ _
  exact ⟨e, by show 49 * g_J τ root (g_rt τ t) + g_rt τ t < 49 * g_J τ root t + t; omega⟩
end GJ
/-- by which part an either is read: 0, 1, or 2 (by none) -/
def g_cho (τ : Tb) (S : TS) (x t : Nat) : Nat := if (g_fi S (g_lf τ t)).testBit x then 0 else if (g_fi S (g_rt τ t)).testBit x then 1 else if g_nu S (g_lf τ t) then 0 else if g_nu S (g_rt τ t) then 1 else 2
/-- a visit: what it comes to (0 goes on, 1 a letter is read, 2 can't be done), and what is then to be read -/
def g_st (τ : Tb) (root : Nat) (S : TS) (x t : Nat) (σ : List Nat) : Nat × List Nat :=
  if g_kd τ t = 0 then (0, σ) else if g_kd τ t = 2 then (if g_sg τ t = x then 1 else 2, σ) else if g_kd τ t = 3 then (0, g_lf τ t :: g_rt τ t :: σ)
  else if g_kd τ t = 4 then (if g_cho τ S x t = 2 then (2, σ) else if g_cho τ S x t = 0 then (0, g_lf τ t :: σ) else (0, g_rt τ t :: σ))
  else if g_kd τ t = 5 then (0, (g_B τ root (g_sg τ t) t).getD 0 :: σ) else if g_kd τ t = 6 then (0, g_lf τ t :: σ) else (2, σ)
/-- a set of letters has none that a row of terms may begin with -/
def g_sepF (S : TS) (F : Nat) : List Nat → Prop
  | [] => True
  | t :: σ => F &&& g_fi S t = 0 ∧ (g_nu S t = true → g_sepF S F σ)
def g_sep (S : TS) : List Nat → Prop
  | [] => True
  | t :: σ => g_sepF S (g_af S t) σ ∧ (g_nu S t = true → g_sepF S (g_fi S t) σ) ∧ g_sep S σ
def g_frun (S : TS) (x : Nat) : List Nat → Bool
  | [] => false
  | t :: σ => (g_fi S t).testBit x || (g_nu S t && g_frun S x σ)
/-- how long a row of terms can be gone on with before a letter -/
def g_M (τ : Tb) (root : Nat) (S : TS) : List Nat → Nat
  | [] => 0
  | t :: σ => g_rk τ root t + 1 + (if g_nu S t then g_M τ root S σ else 0)
theorem g_and_tb {a b x : Nat} (h : a &&& b = 0) (ha : a.testBit x = true) : b.testBit x = false := by
  have e : (a &&& b).testBit x = false := by rw [h]; simp
  rw [Nat.testBit_and, ha, Bool.true_and] at e
  exact e
theorem g_sub_and {a b c : Nat} (h : b &&& c = 0) (hs : ∀ x, a.testBit x = true → b.testBit x = true) : a &&& c = 0 := by
  apply Nat.eq_of_testBit_eq
  intro x
  rw [Nat.testBit_and, Nat.zero_testBit]
  cases ha : a.testBit x with
  | false => rfl
  | true => rw [g_and_tb h (hs x ha)]; rfl
theorem g_sepF_sub {S : TS} {F F' : Nat} (hs : ∀ x, F'.testBit x = true → F.testBit x = true) : ∀ {σ : List Nat}, g_sepF S F σ → g_sepF S F' σ
  | [], _ => trivial
  | _ :: _, h => ⟨g_sub_and h.1 hs, fun z => g_sepF_sub hs (h.2 z)⟩
theorem g_sepF_run {S : TS} {F x : Nat} (hx : F.testBit x = true) : ∀ {σ : List Nat}, g_sepF S F σ → g_frun S x σ = false
  | [], _ => rfl
  | t :: σ, h => by
    show ((g_fi S t).testBit x || (g_nu S t && g_frun S x σ)) = false
    rw [g_and_tb h.1 hx, Bool.false_or]
    cases hn : g_nu S t with
    | false => rfl
    | true => rw [g_sepF_run hx (h.2 hn)]; rfl
section GR
variable {n : Nat} {τ : Tb} {root : Nat} {S : TS}
theorem g_F3 (hT : g_TY τ root S) {t : Nat} (ht : t ∈ g_P τ root) (hk : g_kd τ t = 3) : g_nu S t = false ∧ g_fi S t = g_fi S (g_lf τ t) ∧ g_af S t = g_af S (g_rt τ t) ||| (if g_nu S (g_rt τ t) then g_fi S (g_rt τ t) ||| g_af S (g_lf τ t) else 0) := by
  have e := hT.1 t ht
  have hn := ((hT.2.2 t ht).2.1 hk).1
  unfold g_F at e
  rw [if_neg (by omega), if_neg (by omega), if_pos hk, hn] at e
  refine ⟨by show (S t).1 = false; rw [e]; rfl, by show (S t).2.1 = _; rw [e]; simp, by show (S t).2.2 = _; rw [e]⟩
theorem g_F4 (hT : g_TY τ root S) {t : Nat} (ht : t ∈ g_P τ root) (hk : g_kd τ t = 4) : g_nu S t = (g_nu S (g_lf τ t) || g_nu S (g_rt τ t)) ∧ g_fi S t = g_fi S (g_lf τ t) ||| g_fi S (g_rt τ t) ∧ g_af S t = g_af S (g_lf τ t) ||| g_af S (g_rt τ t) := by
  have e := hT.1 t ht
  unfold g_F at e
  rw [if_neg (by omega), if_neg (by omega), if_neg (by omega), if_pos hk] at e
  refine ⟨by show (S t).1 = _; rw [e], by show (S t).2.1 = _; rw [e], by show (S t).2.2 = _; rw [e]⟩
theorem g_F5 (hT : g_TY τ root S) {t : Nat} (ht : t ∈ g_P τ root) (hk : g_kd τ t = 5) : ∃ k, g_B τ root (g_sg τ t) t = some k ∧ S t = S k := by
  obtain ⟨k, h1, -⟩ := (hT.2.2 t ht).1 hk
  have e := hT.1 t ht
  unfold g_F at e
  rw [if_neg (by omega), if_neg (by omega), if_neg (by omega), if_neg (by omega), if_pos hk, h1] at e
  exact ⟨k, h1, e⟩
theorem g_F6 (hT : g_TY τ root S) {t : Nat} (ht : t ∈ g_P τ root) (hk : g_kd τ t = 6) : S t = S (g_lf τ t) := by
  have e := hT.1 t ht
  unfold g_F at e
  rw [if_neg (by omega), if_neg (by omega), if_neg (by omega), if_neg (by omega), if_neg (by omega), if_pos hk] at e
  exact e
theorem g_F0 (hT : g_TY τ root S) {t : Nat} (ht : t ∈ g_P τ root) (hk : g_kd τ t = 0) : S t = (true, 0, 0) := by
  have e := hT.1 t ht
  unfold g_F at e
  rw [if_pos hk] at e
  exact e
theorem g_F2 (hT : g_TY τ root S) {t : Nat} (ht : t ∈ g_P τ root) (hk : g_kd τ t = 2) : S t = (false, 2 ^ g_sg τ t, 0) := by
  have e := hT.1 t ht
  unfold g_F at e
  rw [if_neg (by omega), if_pos hk] at e
  exact e
theorem g_F1 (hT : g_TY τ root S) {t : Nat} (ht : t ∈ g_P τ root) (hk : g_kd τ t = 1 ∨ 6 < g_kd τ t) : S t = (false, 0, 0) := by
  have e := hT.1 t ht
  unfold g_F at e
  rw [if_neg (by omega), if_neg (by omega), if_neg (by omega), if_neg (by omega), if_neg (by omega), if_neg (by omega)] at e
  exact e
/-- where a visit goes on: by what follows in the order of ranks; a case for each kind -/
theorem g_st_cases (h : g_WF n τ) (hr : root < n) (hT : g_TY τ root S) (x : Nat) {t : Nat} (ht : t ∈ g_P τ root) (σ : List Nat) {P : Nat × List Nat → Prop}
    (c0 : g_kd τ t = 0 → S t = (true, 0, 0) → P (0, σ))
    (c1 : S t = (false, 0, 0) → (g_kd τ t = 1 ∨ 6 < g_kd τ t) → P (2, σ))
    (c2 : g_kd τ t = 2 → S t = (false, 2 ^ g_sg τ t, 0) → P (if g_sg τ t = x then 1 else 2, σ))
    (c3 : g_kd τ t = 3 → g_lf τ t ∈ g_P τ root → g_rt τ t ∈ g_P τ root → g_rk τ root (g_lf τ t) < g_rk τ root t → P (0, g_lf τ t :: g_rt τ t :: σ))
    (c4 : ∀ c, g_kd τ t = 4 → (c = g_lf τ t ∧ g_cho τ S x t = 0 ∨ c = g_rt τ t ∧ g_cho τ S x t = 1) → c ∈ g_P τ root → g_rk τ root c < g_rk τ root t → P (0, c :: σ))
    (c4' : g_kd τ t = 4 → g_cho τ S x t = 2 → P (2, σ))
    (c56 : ∀ c, (g_kd τ t = 5 ∧ g_B τ root (g_sg τ t) t = some c ∨ g_kd τ t = 6 ∧ c = g_lf τ t) → S t = S c → c ∈ g_P τ root → g_rk τ root c < g_rk τ root t → P (0, c :: σ)) : P (g_st τ root S x t σ) := by
  unfold g_st
  by_cases k0 : g_kd τ t = 0
  · rw [if_pos k0]; exact c0 k0 (g_F0 hT ht k0)
  rw [if_neg k0]
  by_cases k2 : g_kd τ t = 2
  · rw [if_pos k2]; exact c2 k2 (g_F2 hT ht k2)
  rw [if_neg k2]
  by_cases k3 : g_kd τ t = 3
  · rw [if_pos k3]
    exact c3 k3 (g_lfP h hr ht (by omega)).1 (g_rtP h hr ht (by omega)).1 (g_rk_lf h hr ht (by omega)).2
  rw [if_neg k3]
  by_cases k4 : g_kd τ t = 4
  · rw [if_pos k4]
    have hc : g_cho τ S x t = 0 ∨ g_cho τ S x t = 1 ∨ g_cho τ S x t = 2 := by
      unfold g_cho
      repeat' split
      all_goals omega
    rcases hc with hc | hc | hc
    · rw [if_neg (by omega), if_pos hc]
      exact c4 _ k4 (Or.inl ⟨rfl, hc⟩) (g_lfP h hr ht (by omega)).1 (g_rk_lf h hr ht (by omega)).2
    · rw [if_neg (by omega), if_neg (by omega)]
      exact c4 _ k4 (Or.inr ⟨rfl, hc⟩) (g_rtP h hr ht (by omega)).1 (g_rk_rt h hr ht k4).2
    · rw [if_pos hc]
      exact c4' k4 hc
  rw [if_neg k4]
  by_cases k5 : g_kd τ t = 5
  · rw [if_pos k5]
    obtain ⟨k, h1, h2⟩ := g_F5 hT ht k5
    have q := g_rk_var h hr hT ht k5 h1
    rw [h1]
    exact c56 k (Or.inl ⟨k5, h1⟩) h2 q.1 q.2.2
  rw [if_neg k5]
  by_cases k6 : g_kd τ t = 6
  · rw [if_pos k6]
    exact c56 _ (Or.inr ⟨k6, rfl⟩) (g_F6 hT ht k6) (g_lfP h hr ht (by omega)).1 (g_rk_lf h hr ht (by omega)).2
  · rw [if_neg k6]
    have q : g_kd τ t = 1 ∨ 6 < g_kd τ t := by omega
    exact c1 (g_F1 hT ht q) q
/-- the part by which an either is read: what of it holds of the either -/
theorem g_cho_in (hT : g_TY τ root S) {x t c : Nat} (ht : t ∈ g_P τ root) (hk : g_kd τ t = 4) (hc : c = g_lf τ t ∧ g_cho τ S x t = 0 ∨ c = g_rt τ t ∧ g_cho τ S x t = 1) :
    (g_nu S c = true → g_nu S t = true) ∧ (∀ y, (g_fi S c).testBit y = true → (g_fi S t).testBit y = true) ∧ (∀ y, (g_af S c).testBit y = true → (g_af S t).testBit y = true) := by
  obtain ⟨e1, e2, e3⟩ := g_F4 hT ht hk
  rw [e1, e2, e3]
  rcases hc with ⟨rfl, -⟩ | ⟨rfl, -⟩
  · refine ⟨fun z => by rw [z]; rfl, fun y z => by rw [Nat.testBit_or, z]; rfl, fun y z => by rw [Nat.testBit_or, z]; rfl⟩
  · refine ⟨fun z => by rw [z, Bool.or_true], fun y z => by rw [Nat.testBit_or, z, Bool.or_true], fun y z => by rw [Nat.testBit_or, z, Bool.or_true]⟩
/-- .. it is read by the other part never -/
theorem g_cho_first (hT : g_TY τ root S) {x t c : Nat} (ht : t ∈ g_P τ root) (hk : g_kd τ t = 4) (hc : c = g_lf τ t ∧ g_cho τ S x t = 0 ∨ c = g_rt τ t ∧ g_cho τ S x t = 1) :
    ((g_fi S t).testBit x = true → (g_fi S c).testBit x = true) ∧ ((g_fi S t).testBit x = false → g_nu S c = true) := by
  obtain ⟨e1, e2, e3⟩ := g_F4 hT ht hk
  rw [e2, Nat.testBit_or]
  unfold g_cho at hc
  rcases hc with ⟨rfl, hc⟩ | ⟨rfl, hc⟩ <;> revert hc <;> cases (g_fi S (g_lf τ t)).testBit x <;> cases (g_fi S (g_rt τ t)).testBit x <;> cases g_nu S (g_lf τ t) <;> cases g_nu S (g_rt τ t) <;> simp
/-- a visit keeps the letters apart -/
theorem g_sep_st (h : g_WF n τ) (hr : root < n) (hT : g_TY τ root S) (x : Nat) {t : Nat} (ht : t ∈ g_P τ root) {σ : List Nat} (hσ : ∀ u, u ∈ σ → u ∈ g_P τ root) (hs : g_sep S (t :: σ)) : g_sep S (g_st τ root S x t σ).2 ∧ ∀ u, u ∈ (g_st τ root S x t σ).2 → u ∈ g_P τ root := by
  obtain ⟨s1, s2, s3⟩ := hs
  have cons : ∀ c, c ∈ g_P τ root → ∀ u, u ∈ c :: σ → u ∈ g_P τ root := fun c hc u hu => by
    rcases List.mem_cons.mp hu with rfl | hu
    · exact hc
    · exact hσ u hu
  refine g_st_cases h hr hT x ht σ (P := fun q => g_sep S q.2 ∧ ∀ u, u ∈ q.2 → u ∈ g_P τ root) ?_ ?_ ?_ ?_ ?_ ?_ ?_
  · intro _ _; exact ⟨s3, hσ⟩
  · intro _ _; exact ⟨s3, hσ⟩
  · intro _ _; exact ⟨s3, hσ⟩
  · intro k3 hl hrr _
    obtain ⟨e1, e2, e3⟩ := g_F3 hT ht k3
    obtain ⟨n1, n2⟩ := (hT.2.2 t ht).2.1 k3
    refine ⟨⟨⟨n2, fun hn => g_sepF_sub (fun y hy => ?_) s1⟩, (fun z => by rw [n1] at z; cases z), g_sepF_sub (fun y hy => ?_) s1, fun hn => g_sepF_sub (fun y hy => ?_) s1, s3⟩, ?_⟩
    · rw [e3, hn, if_pos rfl, Nat.testBit_or, Nat.testBit_or, hy, Bool.or_true, Bool.or_true]
    · rw [e3, Nat.testBit_or, hy, Bool.true_or]
    · rw [e3, hn, if_pos rfl, Nat.testBit_or, Nat.testBit_or, hy, Bool.true_or, Bool.or_true]
    · intro u hu
      rcases List.mem_cons.mp hu with rfl | hu
      · exact hl
      · exact cons _ hrr u hu
  · intro c k4 hc hcP _
    obtain ⟨q1, q2, q3⟩ := g_cho_in hT ht k4 hc
    exact ⟨⟨g_sepF_sub q3 s1, fun z => g_sepF_sub q2 (s2 (q1 z)), s3⟩, cons c hcP⟩
  · intro _ _; exact ⟨s3, hσ⟩
  · intro c _ e hcP _
    have e1 : g_af S c = g_af S t := by show (S c).2.2 = (S t).2.2; rw [e]
    have e2 : g_fi S c = g_fi S t := by show (S c).2.1 = (S t).2.1; rw [e]
    have e3 : g_nu S c = g_nu S t := by show (S c).1 = (S t).1; rw [e]
    refine ⟨⟨?_, ?_, s3⟩, cons c hcP⟩
    · rw [e1]; exact s1
    · rw [e2, e3]; exact s2
/-- a visit that goes on comes nearer to a letter -/
theorem g_M_st (h : g_WF n τ) (hr : root < n) (hT : g_TY τ root S) (x : Nat) {t : Nat} (ht : t ∈ g_P τ root) (σ : List Nat) (h0 : (g_st τ root S x t σ).1 = 0) : g_M τ root S (g_st τ root S x t σ).2 < g_M τ root S (t :: σ) := by
  revert h0
  refine g_st_cases h hr hT x ht σ (P := fun q => q.1 = 0 → g_M τ root S q.2 < g_M τ root S (t :: σ)) ?_ ?_ ?_ ?_ ?_ ?_ ?_
  · intro _ e _
    have e3 : g_nu S t = true := by show (S t).1 = true; rw [e]
    show g_M τ root S σ < g_rk τ root t + 1 + (if g_nu S t then g_M τ root S σ else 0)
    rw [e3, if_pos rfl]
    omega
  · intro _ _ z; cases z
  · intro _ _ z
    revert z
    show (if g_sg τ t = x then 1 else 2) = 0 → _
    split <;> intro z <;> cases z
  · intro k3 hl hrr hk _
    have n1 := ((hT.2.2 t ht).2.1 k3).1
    show g_rk τ root (g_lf τ t) + 1 + (if g_nu S (g_lf τ t) then _ else 0) < g_rk τ root t + 1 + (if g_nu S t then g_M τ root S σ else 0)
    rw [n1, (g_F3 hT ht k3).1]
    simp only [Bool.false_eq_true, if_false]
    omega
  · intro c k4 hc hcP hk _
    obtain ⟨q1, -, -⟩ := g_cho_in hT ht k4 hc
    show g_rk τ root c + 1 + (if g_nu S c then g_M τ root S σ else 0) < g_rk τ root t + 1 + (if g_nu S t then g_M τ root S σ else 0)
    cases hn : g_nu S c with
    | false => simp only [Bool.false_eq_true, if_false]; omega
    | true => rw [q1 hn, if_pos rfl, if_pos rfl]; omega
  · intro _ _ z; cases z
  · intro c _ e hcP hk _
    have e3 : g_nu S c = g_nu S t := by show (S c).1 = (S t).1; rw [e]
    show g_rk τ root c + 1 + (if g_nu S c then g_M τ root S σ else 0) < g_rk τ root t + 1 + (if g_nu S t then g_M τ root S σ else 0)
    rw [e3]
    omega
end GR
end
