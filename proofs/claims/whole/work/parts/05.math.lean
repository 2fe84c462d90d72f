/-! PURE: the terms as rows of whole numbers. τ 0 kind, τ 1 sign, τ 2 and τ 3 the parts, τ 4 of what it is a part, τ 5 whether it is one -/
abbrev Tb : Type := Nat → Nat → Nat
abbrev g_kd (τ : Tb) (t : Nat) : Nat := τ 0 t
abbrev g_sg (τ : Tb) (t : Nat) : Nat := τ 1 t
abbrev g_lf (τ : Tb) (t : Nat) : Nat := τ 2 t
abbrev g_rt (τ : Tb) (t : Nat) : Nat := τ 3 t
abbrev g_wh (τ : Tb) (t : Nat) : Nat := τ 4 t
abbrev g_ip (τ : Tb) (t : Nat) : Nat := τ 5 t
def g_ch (τ : Tb) (t : Nat) : List Nat := if g_kd τ t = 6 then [g_lf τ t] else if g_kd τ t = 3 ∨ g_kd τ t = 4 then [g_lf τ t, g_rt τ t] else []
def g_po (τ : Tb) : Nat → Nat → List Nat
  | 0, _ => []
  | f + 1, t => (g_ch τ t).flatMap (g_po τ f) ++ [t]
/-- what holds of the terms below n -/
def g_WF (n : Nat) (τ : Tb) : Prop :=
  n ≤ 48 ∧ ∀ t, t < n → g_kd τ t ≤ 6 ∧ (g_kd τ t = 2 → g_sg τ t < 8) ∧ (g_kd τ t = 5 ∨ g_kd τ t = 6 → g_sg τ t < 4) ∧
    (∀ c, c ∈ g_ch τ t → c < t ∧ g_ip τ c = 1 ∧ g_wh τ c = t) ∧ (g_kd τ t = 3 ∨ g_kd τ t = 4 → g_lf τ t ≠ g_rt τ t) ∧
    (g_ip τ t = 1 → t < g_wh τ t ∧ g_wh τ t < n ∧ t ∈ g_ch τ (g_wh τ t))
abbrev g_P (τ : Tb) (t : Nat) : List Nat := g_po τ 48 t
theorem g_flatMap_congr {α β : Type} {l : List α} {f g : α → List β} (h : ∀ a, a ∈ l → f a = g a) : l.flatMap f = l.flatMap g := by
  induction l with
  | nil => rfl
  | cons a l ih => rw [List.flatMap_cons, List.flatMap_cons, h a (by simp), ih (fun b hb => h b (by simp [hb]))]
section GT
variable {n : Nat} {τ : Tb}
theorem g_po_fuel (h : g_WF n τ) : ∀ t, t < n → ∀ f, t < f → g_po τ f t = g_po τ (t + 1) t := by
  intro t
  induction t using Nat.strongRecOn with
  | ind t ih =>
    intro ht f hf
    obtain ⟨f, rfl⟩ : ∃ k, f = k + 1 := ⟨f - 1, by omega⟩
    have hc := (h.2 t ht).2.2.2.1
    have e : ∀ k, t ≤ k → (g_ch τ t).flatMap (g_po τ k) = (g_ch τ t).flatMap (fun c => g_po τ (c + 1) c) := by
      intro k hk
      apply g_flatMap_congr
      intro c hcm
      have := hc c hcm
      exact ih c this.1 (by omega) k (by omega)
    show (g_ch τ t).flatMap (g_po τ f) ++ [t] = (g_ch τ t).flatMap (g_po τ t) ++ [t]
    rw [e f (by omega), e t (Nat.le_refl t)]
theorem g_P_eq (h : g_WF n τ) {t : Nat} (ht : t < n) : g_P τ t = (g_ch τ t).flatMap (g_P τ) ++ [t] := by
  have h48 := h.1
  have hc := (h.2 t ht).2.2.2.1
  have e : g_P τ t = (g_ch τ t).flatMap (g_po τ 47) ++ [t] := rfl
  rw [e]
  congr 1
  apply g_flatMap_congr
  intro c hcm
  have := hc c hcm
  show g_po τ 47 c = g_po τ 48 c
  rw [g_po_fuel h c (by omega) 47 (by omega), g_po_fuel h c (by omega) 48 (by omega)]
theorem g_P_self (h : g_WF n τ) {t : Nat} (ht : t < n) : t ∈ g_P τ t := by
  rw [g_P_eq h ht]; simp
theorem g_P_cases (h : g_WF n τ) {t u : Nat} (ht : t < n) (hu : u ∈ g_P τ t) : u = t ∨ ∃ c, c ∈ g_ch τ t ∧ u ∈ g_P τ c := by
  rw [g_P_eq h ht] at hu
  rcases List.mem_append.mp hu with hu | hu
  · exact Or.inr (List.mem_flatMap.mp hu)
  · exact Or.inl (List.mem_singleton.mp hu)
theorem g_P_child (h : g_WF n τ) {t c u : Nat} (ht : t < n) (hc : c ∈ g_ch τ t) (hu : u ∈ g_P τ c) : u ∈ g_P τ t := by
  rw [g_P_eq h ht]
  exact List.mem_append_left _ (List.mem_flatMap.mpr ⟨c, hc, hu⟩)
theorem g_P_le (h : g_WF n τ) : ∀ t, t < n → ∀ u, u ∈ g_P τ t → u ≤ t := by
  intro t
  induction t using Nat.strongRecOn with
  | ind t ih =>
    intro ht u hu
    rcases g_P_cases h ht hu with rfl | ⟨c, hc, hu⟩
    · exact Nat.le_refl _
    · have := (h.2 t ht).2.2.2.1 c hc
      have := ih c this.1 (by omega) u hu
      omega
theorem g_P_lt (h : g_WF n τ) {t u : Nat} (ht : t < n) (hu : u ∈ g_P τ t) : u < n := Nat.lt_of_le_of_lt (g_P_le h t ht u hu) ht
/-- the whole of what is in a term, but the term itself, is in it -/
theorem g_P_up (h : g_WF n τ) : ∀ t, t < n → ∀ u, u ∈ g_P τ t → u ≠ t → g_ip τ u = 1 ∧ g_wh τ u ∈ g_P τ t := by
  intro t
  induction t using Nat.strongRecOn with
  | ind t ih =>
    intro ht u hu hne
    rcases g_P_cases h ht hu with rfl | ⟨c, hc, hu⟩
    · exact absurd rfl hne
    · have hcc := (h.2 t ht).2.2.2.1 c hc
      by_cases huc : u = c
      · subst huc
        exact ⟨hcc.2.1, by rw [hcc.2.2]; exact g_P_self h ht⟩
      · obtain ⟨h1, h2⟩ := ih c hcc.1 (by omega) u hu huc
        exact ⟨h1, g_P_child h ht hc h2⟩
theorem g_P_down (h : g_WF n τ) {t c : Nat} : ∀ u, t < n → u ∈ g_P τ t → c ∈ g_ch τ u → c ∈ g_P τ t := by
  induction t using Nat.strongRecOn generalizing c with
  | ind t ih =>
    intro u ht hu hc
    rcases g_P_cases h ht hu with rfl | ⟨d, hd, hu⟩
    · have := (h.2 u ht).2.2.2.1 c hc
      exact g_P_child h ht hc (g_P_self h (by omega))
    · have := (h.2 t ht).2.2.2.1 d hd
      exact g_P_child h ht hd (ih d this.1 u (by omega) hu hc)
theorem g_P_trans (h : g_WF n τ) {t u v : Nat} (ht : t < n) (hu : u ∈ g_P τ t) (hv : v ∈ g_P τ u) : v ∈ g_P τ t := by
  induction t using Nat.strongRecOn with
  | ind t ih =>
    rcases g_P_cases h ht hu with rfl | ⟨d, hd, hu⟩
    · exact hv
    · have := (h.2 t ht).2.2.2.1 d hd
      exact g_P_child h ht hd (ih d this.1 (by omega) hu)
theorem g_P_cmp (h : g_WF n τ) {a b : Nat} (ha : a < n) (hb : b < n) : ∀ k u, n - u = k → u ∈ g_P τ a → u ∈ g_P τ b → a ∈ g_P τ b ∨ b ∈ g_P τ a := by
  intro k
  induction k using Nat.strongRecOn with
  | ind k ih =>
    intro u hk h1 h2
    by_cases e1 : u = a
    · subst e1; exact Or.inl h2
    by_cases e2 : u = b
    · subst e2; exact Or.inr h1
    have g1 := g_P_up h a ha u h1 e1
    have g2 := g_P_up h b hb u h2 e2
    have hu := g_P_lt h ha h1
    have g3 := (h.2 u hu).2.2.2.2.2 g1.1
    exact ih (n - g_wh τ u) (by omega) (g_wh τ u) rfl g1.2 g2.2
theorem g_ch_nodup (h : g_WF n τ) {t : Nat} (ht : t < n) : (g_ch τ t).Nodup := by
  have := (h.2 t ht).2.2.2.2.1
  unfold g_ch
  split
  · simp
  · split
    · rename_i h2
      simp [this h2]
    · simp
theorem g_flat_nodup {l : List Nat} {f : Nat → List Nat} (h1 : l.Nodup) (h2 : ∀ a, a ∈ l → (f a).Nodup) (h3 : ∀ a b u, a ∈ l → b ∈ l → u ∈ f a → u ∈ f b → a = b) : (l.flatMap f).Nodup := by
  induction l with
  | nil => simp
  | cons a l ih =>
    rw [List.flatMap_cons, List.nodup_append]
    rw [List.nodup_cons] at h1
    refine ⟨h2 a (by simp), ih h1.2 (fun b hb => h2 b (by simp [hb])) (fun b c u hb hc => h3 b c u (by simp [hb]) (by simp [hc])), ?_⟩
    intro x hx y hy hxy
    subst hxy
    obtain ⟨b, hb, hxb⟩ := List.mem_flatMap.mp hy
    have := h3 a b x (by simp) (by simp [hb]) hx hxb
    subst this
    exact h1.1 hb
theorem g_P_nodup (h : g_WF n τ) : ∀ t, t < n → (g_P τ t).Nodup := by
  intro t
  induction t using Nat.strongRecOn with
  | ind t ih =>
    intro ht
    have hc := (h.2 t ht).2.2.2.1
    rw [g_P_eq h ht, List.nodup_append]
    refine ⟨g_flat_nodup (g_ch_nodup h ht) (fun c hcm => ih c (hc c hcm).1 (by have := (hc c hcm).1; omega)) ?_, by simp, ?_⟩
    · intro a b u ha hb hua hub
      have qa := hc a ha
      have qb := hc b hb
      rcases g_P_cmp h (a := a) (b := b) (by omega) (by omega) _ u rfl hua hub with q | q
      · by_cases e : a = b
        · exact e
        · have := (g_P_up h b (by omega) a q e).2
          rw [qa.2.2] at this
          have := g_P_le h b (by omega) t this
          omega
      · by_cases e : b = a
        · exact e.symm
        · have := (g_P_up h a (by omega) b q e).2
          rw [qb.2.2] at this
          have := g_P_le h a (by omega) t this
          omega
    · intro x hx y hy hxy
      subst hxy
      rw [List.mem_singleton] at hy
      subst hy
      obtain ⟨c, hcm, hxc⟩ := List.mem_flatMap.mp hx
      have := hc c hcm
      have := g_P_le h c (by omega) x hxc
      omega
theorem g_nodup_len {l : List Nat} {N : Nat} (h1 : l.Nodup) (h2 : ∀ u, u ∈ l → u < N) : l.length ≤ N := by
  have := List.Nodup.length_le_of_subset h1 (l₂ := List.range N) (fun u hu => List.mem_range.mpr (h2 u hu))
  simpa using this
theorem g_P_len (h : g_WF n τ) {t : Nat} (ht : t < n) : (g_P τ t).length ≤ 48 := by
  have h48 := h.1
  exact g_nodup_len (g_P_nodup h t ht) (fun u hu => by have := g_P_lt h ht hu; omega)
theorem g_P_pos (h : g_WF n τ) {t : Nat} (ht : t < n) : 1 ≤ (g_P τ t).length := by
  rw [g_P_eq h ht]; simp
end GT
/-- what binds the variable v, seen from u, within root -/
def g_bd (τ : Tb) (root v : Nat) : Nat → Nat → Option Nat
  | 0, _ => none
  | f + 1, u => if u = root then none else if g_kd τ (g_wh τ u) = 6 ∧ g_sg τ (g_wh τ u) = v then some (g_wh τ u) else g_bd τ root v f (g_wh τ u)
/-- whether a second part of a pair lies on the way -/
def g_gd (τ : Tb) (root v : Nat) : Nat → Nat → Bool
  | 0, _ => false
  | f + 1, u => if u = root then false else (decide (g_kd τ (g_wh τ u) = 3 ∧ g_rt τ (g_wh τ u) = u) || (if g_kd τ (g_wh τ u) = 6 ∧ g_sg τ (g_wh τ u) = v then false else g_gd τ root v f (g_wh τ u)))
abbrev g_B (τ : Tb) (root v u : Nat) : Option Nat := g_bd τ root v 48 u
abbrev g_G (τ : Tb) (root v u : Nat) : Bool := g_gd τ root v 48 u
section GB
variable {n : Nat} {τ : Tb} {root : Nat}
theorem g_up (h : g_WF n τ) (hr : root < n) {u : Nat} (hu : u ∈ g_P τ root) (hne : u ≠ root) : u < g_wh τ u ∧ g_wh τ u < n ∧ g_wh τ u ∈ g_P τ root ∧ u ∈ g_ch τ (g_wh τ u) ∧ g_ip τ u = 1 ∧ g_wh τ u ≤ root := by
  obtain ⟨h1, h2⟩ := g_P_up h root hr u hu hne
  obtain ⟨h3, h4, h5⟩ := (h.2 u (g_P_lt h hr hu)).2.2.2.2.2 h1
  exact ⟨h3, h4, h2, h5, h1, g_P_le h root hr _ h2⟩
theorem g_bd_fuel (h : g_WF n τ) (hr : root < n) (v : Nat) : ∀ k u, u ∈ g_P τ root → root - u ≤ k → ∀ f, k < f → g_bd τ root v f u = g_bd τ root v (k + 1) u := by
  intro k
  induction k with
  | zero =>
    intro u hu hk f hf
    have := g_P_le h root hr u hu
    obtain ⟨f, rfl⟩ : ∃ m, f = m + 1 := ⟨f - 1, by omega⟩
    have e : u = root := by omega
    simp [g_bd, e]
  | succ k ih =>
    intro u hu hk f hf
    obtain ⟨f, rfl⟩ : ∃ m, f = m + 1 := ⟨f - 1, by omega⟩
    by_cases e : u = root
    · simp [g_bd, e]
    · obtain ⟨h1, h2, h3, -, -, h4⟩ := g_up h hr hu e
      have a1 := ih (g_wh τ u) h3 (by omega) f (by omega)
      show (if u = root then _ else _) = (if u = root then _ else _)
      rw [a1]
theorem g_gd_fuel (h : g_WF n τ) (hr : root < n) (v : Nat) : ∀ k u, u ∈ g_P τ root → root - u ≤ k → ∀ f, k < f → g_gd τ root v f u = g_gd τ root v (k + 1) u := by
  intro k
  induction k with
  | zero =>
    intro u hu hk f hf
    have := g_P_le h root hr u hu
    obtain ⟨f, rfl⟩ : ∃ m, f = m + 1 := ⟨f - 1, by omega⟩
    have e : u = root := by omega
    simp [g_gd, e]
  | succ k ih =>
    intro u hu hk f hf
    obtain ⟨f, rfl⟩ : ∃ m, f = m + 1 := ⟨f - 1, by omega⟩
    by_cases e : u = root
    · simp [g_gd, e]
    · obtain ⟨h1, h2, h3, -, -, h4⟩ := g_up h hr hu e
      have a1 := ih (g_wh τ u) h3 (by omega) f (by omega)
      show (if u = root then _ else _) = (if u = root then _ else _)
      rw [a1]
theorem g_B_eq (h : g_WF n τ) (hr : root < n) (v : Nat) {u : Nat} (hu : u ∈ g_P τ root) : g_B τ root v u = if u = root then none else if g_kd τ (g_wh τ u) = 6 ∧ g_sg τ (g_wh τ u) = v then some (g_wh τ u) else g_B τ root v (g_wh τ u) := by
  have h48 := h.1
  by_cases e : u = root
  · simp [g_B, g_bd, e]
  · obtain ⟨h1, h2, h3, -, -, h4⟩ := g_up h hr hu e
    have a1 := g_bd_fuel h hr v (root - g_wh τ u) (g_wh τ u) h3 (Nat.le_refl _) 47 (by omega)
    have a2 := g_bd_fuel h hr v (root - g_wh τ u) (g_wh τ u) h3 (Nat.le_refl _) 48 (by omega)
    show (if u = root then _ else if _ then _ else g_bd τ root v 47 (g_wh τ u)) = _
    rw [a1, ← a2]
theorem g_G_eq (h : g_WF n τ) (hr : root < n) (v : Nat) {u : Nat} (hu : u ∈ g_P τ root) : g_G τ root v u = if u = root then false else (decide (g_kd τ (g_wh τ u) = 3 ∧ g_rt τ (g_wh τ u) = u) || (if g_kd τ (g_wh τ u) = 6 ∧ g_sg τ (g_wh τ u) = v then false else g_G τ root v (g_wh τ u))) := by
  have h48 := h.1
  by_cases e : u = root
  · simp [g_G, g_gd, e]
  · obtain ⟨h1, h2, h3, -, -, h4⟩ := g_up h hr hu e
    have a1 := g_gd_fuel h hr v (root - g_wh τ u) (g_wh τ u) h3 (Nat.le_refl _) 47 (by omega)
    have a2 := g_gd_fuel h hr v (root - g_wh τ u) (g_wh τ u) h3 (Nat.le_refl _) 48 (by omega)
    show (if u = root then _ else (_ || (if _ then _ else g_gd τ root v 47 (g_wh τ u)))) = _
    rw [a1, ← a2]
/-- what binds is a knot round the variable, in the root -/
theorem g_B_some (h : g_WF n τ) (hr : root < n) {v k : Nat} : ∀ m u, u ∈ g_P τ root → root - u ≤ m → g_B τ root v u = some k → u < k ∧ g_kd τ k = 6 ∧ g_sg τ k = v ∧ k ∈ g_P τ root ∧ u ∈ g_P τ k := by
  intro m
  induction m with
  | zero =>
    intro u hu hm hb
    have := g_P_le h root hr u hu
    rw [g_B_eq h hr v hu, if_pos (by omega)] at hb
    cases hb
  | succ m ih =>
    intro u hu hm hb
    by_cases e : u = root
    · rw [g_B_eq h hr v hu, if_pos e] at hb
      cases hb
    · obtain ⟨h1, h2, h3, h5, -, h4⟩ := g_up h hr hu e
      rw [g_B_eq h hr v hu, if_neg e] at hb
      split at hb
      · rename_i hk
        cases hb
        exact ⟨h1, hk.1, hk.2, h3, g_P_child h h2 h5 (g_P_self h (g_P_lt h hr hu))⟩
      · obtain ⟨q1, q2, q3, q4, q5⟩ := ih (g_wh τ u) h3 (by omega) hb
        exact ⟨by omega, q2, q3, q4, g_P_down h (g_wh τ u) (g_P_lt h hr q4) q5 h5⟩
/-- one step up by an edge that is no second part: the guard lies further up -/
theorem g_step (h : g_WF n τ) (hr : root < n) {v k u : Nat} (hu : u ∈ g_P τ root) (hb : g_B τ root v u = some k) (hg : g_G τ root v u = true) (hne : ¬ (g_kd τ (g_wh τ u) = 3 ∧ g_rt τ (g_wh τ u) = u)) : u ≠ root ∧ g_wh τ u ∈ g_P τ root ∧ k ≠ g_wh τ u ∧ g_B τ root v (g_wh τ u) = some k ∧ g_G τ root v (g_wh τ u) = true := by
  by_cases e : u = root
  · rw [g_B_eq h hr v hu, if_pos e] at hb
    cases hb
  · obtain ⟨h1, h2, h3, h5, -, h4⟩ := g_up h hr hu e
    rw [g_B_eq h hr v hu, if_neg e] at hb
    rw [g_G_eq h hr v hu, if_neg e, decide_eq_false hne, Bool.false_or] at hg
    split at hg
    · cases hg
    · rename_i hk
      rw [if_neg hk] at hb
      refine ⟨e, h3, ?_, hb, hg⟩
      have := g_B_some h hr _ _ h3 (Nat.le_refl _) hb
      omega
end GB
/-- types: nullable, first, after -/
abbrev TS : Type := Nat → Bool × Nat × Nat
abbrev g_nu (S : TS) (t : Nat) : Bool := (S t).1
abbrev g_fi (S : TS) (t : Nat) : Nat := (S t).2.1
abbrev g_af (S : TS) (t : Nat) : Nat := (S t).2.2
def g_F (τ : Tb) (root : Nat) (S : TS) (t : Nat) : Bool × Nat × Nat :=
  if g_kd τ t = 0 then (true, 0, 0) else if g_kd τ t = 2 then (false, 2 ^ g_sg τ t, 0)
  else if g_kd τ t = 3 then (g_nu S (g_lf τ t) && g_nu S (g_rt τ t), g_fi S (g_lf τ t) ||| (if g_nu S (g_lf τ t) then g_fi S (g_rt τ t) else 0), g_af S (g_rt τ t) ||| (if g_nu S (g_rt τ t) then g_fi S (g_rt τ t) ||| g_af S (g_lf τ t) else 0))
  else if g_kd τ t = 4 then (g_nu S (g_lf τ t) || g_nu S (g_rt τ t), g_fi S (g_lf τ t) ||| g_fi S (g_rt τ t), g_af S (g_lf τ t) ||| g_af S (g_rt τ t))
  else if g_kd τ t = 5 then (match g_B τ root (g_sg τ t) t with | some k => S k | none => (false, 0, 0))
  else if g_kd τ t = 6 then S (g_lf τ t) else (false, 0, 0)
/-- a term that has a type, by the types S of all in it -/
def g_TY (τ : Tb) (root : Nat) (S : TS) : Prop :=
  (∀ t, t ∈ g_P τ root → S t = g_F τ root S t) ∧ (∀ t, t ∈ g_P τ root → g_fi S t < 256 ∧ g_af S t < 256) ∧
  ∀ t, t ∈ g_P τ root → (g_kd τ t = 5 → ∃ k, g_B τ root (g_sg τ t) t = some k ∧ g_G τ root (g_sg τ t) t = true) ∧
    (g_kd τ t = 3 → g_nu S (g_lf τ t) = false ∧ g_af S (g_lf τ t) &&& g_fi S (g_rt τ t) = 0) ∧
    (g_kd τ t = 4 → (g_nu S (g_lf τ t) && g_nu S (g_rt τ t)) = false ∧ g_fi S (g_lf τ t) &&& g_fi S (g_rt τ t) = 0)
/-- the jump measure: how far out the variables are bound that begin a term's words -/
def g_jm (τ : Tb) (root : Nat) : Nat → Nat → Nat
  | 0, _ => 0
  | f + 1, t => if g_kd τ t = 5 then 48 - (g_B τ root (g_sg τ t) t).getD 48 else if g_kd τ t = 4 then max (g_jm τ root f (g_lf τ t)) (g_jm τ root f (g_rt τ t)) else if g_kd τ t = 3 ∨ g_kd τ t = 6 then g_jm τ root f (g_lf τ t) else 0
abbrev g_J (τ : Tb) (root t : Nat) : Nat := g_jm τ root 48 t
abbrev g_rk (τ : Tb) (root t : Nat) : Nat := 49 * g_J τ root t + t
section GJ
variable {n : Nat} {τ : Tb} {root : Nat} {S : TS}
theorem g_ch4 {t : Nat} (hk : g_kd τ t = 3 ∨ g_kd τ t = 4) : g_ch τ t = [g_lf τ t, g_rt τ t] := by
  unfold g_ch
  rw [if_neg (by omega), if_pos hk]
theorem g_ch6 {t : Nat} (hk : g_kd τ t = 6) : g_ch τ t = [g_lf τ t] := by
  unfold g_ch
  rw [if_pos hk]
theorem g_lfP (h : g_WF n τ) (hr : root < n) {t : Nat} (ht : t ∈ g_P τ root) (hk : g_kd τ t = 3 ∨ g_kd τ t = 4 ∨ g_kd τ t = 6) : g_lf τ t ∈ g_P τ root ∧ g_lf τ t < t ∧ g_wh τ (g_lf τ t) = t ∧ g_lf τ t ∈ g_ch τ t := by
  have hm : g_lf τ t ∈ g_ch τ t := by
    rcases hk with hk | hk | hk
    · rw [g_ch4 (Or.inl hk)]; simp
    · rw [g_ch4 (Or.inr hk)]; simp
    · rw [g_ch6 hk]; simp
  have := (h.2 t (g_P_lt h hr ht)).2.2.2.1 _ hm
  exact ⟨g_P_down h t hr ht hm, this.1, this.2.2, hm⟩
theorem g_rtP (h : g_WF n τ) (hr : root < n) {t : Nat} (ht : t ∈ g_P τ root) (hk : g_kd τ t = 3 ∨ g_kd τ t = 4) : g_rt τ t ∈ g_P τ root ∧ g_rt τ t < t ∧ g_wh τ (g_rt τ t) = t ∧ g_rt τ t ∈ g_ch τ t := by
  have hm : g_rt τ t ∈ g_ch τ t := by rw [g_ch4 hk]; simp
  have := (h.2 t (g_P_lt h hr ht)).2.2.2.1 _ hm
  exact ⟨g_P_down h t hr ht hm, this.1, this.2.2, hm⟩
theorem g_jm_fuel (h : g_WF n τ) (hr : root < n) : ∀ t, t ∈ g_P τ root → ∀ f, t < f → g_jm τ root f t = g_jm τ root (t + 1) t := by
  intro t
  induction t using Nat.strongRecOn with
  | ind t ih =>
    intro ht f hf
    obtain ⟨f, rfl⟩ : ∃ k, f = k + 1 := ⟨f - 1, by omega⟩
    unfold g_jm
    by_cases h5 : g_kd τ t = 5
    · rw [if_pos h5, if_pos h5]
    rw [if_neg h5, if_neg h5]
    by_cases h4 : g_kd τ t = 4
    · rw [if_pos h4, if_pos h4]
      have a := g_lfP h hr ht (by omega)
      have b := g_rtP h hr ht (by omega)
      rw [ih _ a.2.1 a.1 f (by omega), ih _ a.2.1 a.1 t (by omega), ih _ b.2.1 b.1 f (by omega), ih _ b.2.1 b.1 t (by omega)]
    rw [if_neg h4, if_neg h4]
    by_cases h3 : g_kd τ t = 3 ∨ g_kd τ t = 6
    · rw [if_pos h3, if_pos h3]
      have a := g_lfP h hr ht (by omega)
      rw [ih _ a.2.1 a.1 f (by omega), ih _ a.2.1 a.1 t (by omega)]
    · rw [if_neg h3, if_neg h3]
theorem g_J_eq (h : g_WF n τ) (hr : root < n) {t : Nat} (ht : t ∈ g_P τ root) : g_J τ root t = if g_kd τ t = 5 then 48 - (g_B τ root (g_sg τ t) t).getD 48 else if g_kd τ t = 4 then max (g_J τ root (g_lf τ t)) (g_J τ root (g_rt τ t)) else if g_kd τ t = 3 ∨ g_kd τ t = 6 then g_J τ root (g_lf τ t) else 0 := by
  have h48 := h.1
  have e : ∀ c, c ∈ g_P τ root → c < t → g_jm τ root 47 c = g_jm τ root 48 c := fun c hc hlt => by
    have := g_P_lt h hr ht
    rw [g_jm_fuel h hr c hc 47 (by omega), g_jm_fuel h hr c hc 48 (by omega)]
  show g_jm τ root (47 + 1) t = _
  conv => lhs; unfold g_jm
  by_cases h5 : g_kd τ t = 5
  · rw [if_pos h5, if_pos h5]
  rw [if_neg h5, if_neg h5]
  by_cases h4 : g_kd τ t = 4
  · rw [if_pos h4, if_pos h4]
    have a := g_lfP h hr ht (by omega)
    have b := g_rtP h hr ht (by omega)
    rw [e _ a.1 a.2.1, e _ b.1 b.2.1]
  rw [if_neg h4, if_neg h4]
  by_cases h3 : g_kd τ t = 3 ∨ g_kd τ t = 6
  · rw [if_pos h3, if_pos h3]
    have a := g_lfP h hr ht (by omega)
    rw [e _ a.1 a.2.1]
  · rw [if_neg h3, if_neg h3]
/-- the jump measure is 0, or that of a variable that is bound, and guarded, above -/
theorem g_J_var (h : g_WF n τ) (hr : root < n) (hT : g_TY τ root S) : ∀ t, t ∈ g_P τ root → g_J τ root t = 0 ∨ ∃ v k, g_B τ root v t = some k ∧ g_G τ root v t = true ∧ g_J τ root t = 48 - k := by
  intro t
  induction t using Nat.strongRecOn with
  | ind t ih =>
    intro ht
    have go : ∀ c, c ∈ g_P τ root → c < t → g_wh τ c = t → ¬ (g_kd τ t = 3 ∧ g_rt τ t = c) → (∃ v k, g_B τ root v c = some k ∧ g_G τ root v c = true ∧ g_J τ root c = 48 - k) → ∃ v k, g_B τ root v t = some k ∧ g_G τ root v t = true ∧ g_J τ root c = 48 - k := by
      intro c hc hlt hw hne ⟨v, k, h1, h2, h3⟩
      obtain ⟨-, -, -, q1, q2⟩ := g_step h hr hc h1 h2 (by rw [hw]; exact hne)
      rw [hw] at q1 q2
      exact ⟨v, k, q1, q2, h3⟩
    rw [g_J_eq h hr ht]
    by_cases h5 : g_kd τ t = 5
    · rw [if_pos h5]
      obtain ⟨k, h1, h2⟩ := (hT.2.2 t ht).1 h5
      exact Or.inr ⟨_, k, h1, h2, by rw [h1]; rfl⟩
    rw [if_neg h5]
    by_cases h4 : g_kd τ t = 4
    · rw [if_pos h4]
      have a := g_lfP h hr ht (by omega)
      have b := g_rtP h hr ht (by omega)
      rcases Nat.le_total (g_J τ root (g_lf τ t)) (g_J τ root (g_rt τ t)) with hle | hle
      · rw [Nat.max_eq_right hle]
        rcases ih _ b.2.1 b.1 with z | z
        · exact Or.inl z
        · exact Or.inr (go _ b.1 b.2.1 b.2.2.1 (by omega) z)
      · rw [Nat.max_eq_left hle]
        rcases ih _ a.2.1 a.1 with z | z
        · exact Or.inl z
        · exact Or.inr (go _ a.1 a.2.1 a.2.2.1 (by omega) z)
    rw [if_neg h4]
    by_cases h3 : g_kd τ t = 3 ∨ g_kd τ t = 6
    · rw [if_pos h3]
      have a := g_lfP h hr ht (by omega)
      rcases ih _ a.2.1 a.1 with z | z
      · exact Or.inl z
      · refine Or.inr (go _ a.1 a.2.1 a.2.2.1 ?_ z)
        rintro ⟨e1, e2⟩
        exact (h.2 t (g_P_lt h hr ht)).2.2.2.2.1 (Or.inl e1) e2.symm
    · rw [if_neg h3]
      exact Or.inl rfl
theorem g_J_lt (h : g_WF n τ) (hr : root < n) (hT : g_TY τ root S) {t : Nat} (ht : t ∈ g_P τ root) : g_J τ root t < 48 - t := by
  have h48 := h.1
  have := g_P_lt h hr ht
  rcases g_J_var h hr hT t ht with z | ⟨v, k, h1, -, h3⟩
  · omega
  · have q := g_B_some h hr _ _ ht (Nat.le_refl _) h1
    have := g_P_lt h hr q.2.2.2.1
    omega
/-- rank falls by every edge that begins a term's words -/
theorem g_rk_var (h : g_WF n τ) (hr : root < n) (hT : g_TY τ root S) {t k : Nat} (ht : t ∈ g_P τ root) (h5 : g_kd τ t = 5) (hb : g_B τ root (g_sg τ t) t = some k) : k ∈ g_P τ root ∧ g_J τ root k < g_J τ root t ∧ g_rk τ root k < g_rk τ root t := by
  have h48 := h.1
  have q := g_B_some h hr _ _ ht (Nat.le_refl _) hb
  have j := g_J_lt h hr hT q.2.2.2.1
  have e : g_J τ root t = 48 - k := by rw [g_J_eq h hr ht, if_pos h5, hb]; rfl
  have := g_P_lt h hr q.2.2.2.1
  refine ⟨q.2.2.2.1, by omega, ?_⟩
  show 49 * g_J τ root k + k < 49 * g_J τ root t + t
  omega
theorem g_rk_lf (h : g_WF n τ) (hr : root < n) {t : Nat} (ht : t ∈ g_P τ root) (hk : g_kd τ t = 3 ∨ g_kd τ t = 4 ∨ g_kd τ t = 6) : g_J τ root (g_lf τ t) ≤ g_J τ root t ∧ g_rk τ root (g_lf τ t) < g_rk τ root t := by
  have a := g_lfP h hr ht hk
  have e : g_J τ root (g_lf τ t) ≤ g_J τ root t := by
    rw [g_J_eq h hr ht, if_neg (by omega)]
    split
    · exact Nat.le_max_left _ _
    · rw [if_pos (by omega)]
      exact Nat.le_refl _
  exact ⟨e, by show 49 * g_J τ root (g_lf τ t) + g_lf τ t < 49 * g_J τ root t + t; omega⟩
theorem g_rk_rt (h : g_WF n τ) (hr : root < n) {t : Nat} (ht : t ∈ g_P τ root) (hk : g_kd τ t = 4) : g_J τ root (g_rt τ t) ≤ g_J τ root t ∧ g_rk τ root (g_rt τ t) < g_rk τ root t := by
  have a := g_rtP h hr ht (Or.inr hk)
  have e : g_J τ root (g_rt τ t) ≤ g_J τ root t := by
    rw [g_J_eq h hr ht, if_neg (by omega), if_pos hk]
    exact Nat.le_max_right _ _
  exact ⟨e, by show 49 * g_J τ root (g_rt τ t) + g_rt τ t < 49 * g_J τ root t + t; omega⟩
end GJ
/-- by which part an either is read: 0, 1, or 2 (by none) -/
def g_cho (τ : Tb) (S : TS) (x t : Nat) : Nat := if (g_fi S (g_lf τ t)).testBit x then 0 else if (g_fi S (g_rt τ t)).testBit x then 1 else if g_nu S (g_lf τ t) then 0 else if g_nu S (g_rt τ t) then 1 else 2
/-- a visit: what it comes to (0 goes on, 1 a letter is read, 2 can't be done), and what is then to be read -/
def g_st (τ : Tb) (root : Nat) (S : TS) (x t : Nat) (σ : List Nat) : Nat × List Nat :=
  if g_kd τ t = 0 then (0, σ) else if g_kd τ t = 2 then (if g_sg τ t = x then 1 else 2, σ) else if g_kd τ t = 3 then (0, g_lf τ t :: g_rt τ t :: σ)
  else if g_kd τ t = 4 then (if g_cho τ S x t = 2 then (2, σ) else if g_cho τ S x t = 0 then (0, g_lf τ t :: σ) else (0, g_rt τ t :: σ))
  else if g_kd τ t = 5 then (0, (g_B τ root (g_sg τ t) t).getD 0 :: σ) else if g_kd τ t = 6 then (0, g_lf τ t :: σ) else (2, σ)
/-- a set of letters has none that a row of terms may begin with -/
def g_sepF (S : TS) (F : Nat) : List Nat → Prop
  | [] => True
  | t :: σ => F &&& g_fi S t = 0 ∧ (g_nu S t = true → g_sepF S F σ)
def g_sep (S : TS) : List Nat → Prop
  | [] => True
  | t :: σ => g_sepF S (g_af S t) σ ∧ (g_nu S t = true → g_sepF S (g_fi S t) σ) ∧ g_sep S σ
def g_frun (S : TS) (x : Nat) : List Nat → Bool
  | [] => false
  | t :: σ => (g_fi S t).testBit x || (g_nu S t && g_frun S x σ)
/-- how long a row of terms can be gone on with before a letter -/
def g_M (τ : Tb) (root : Nat) (S : TS) : List Nat → Nat
  | [] => 0
  | t :: σ => g_rk τ root t + 1 + (if g_nu S t then g_M τ root S σ else 0)
theorem g_and_tb {a b x : Nat} (h : a &&& b = 0) (ha : a.testBit x = true) : b.testBit x = false := by
  have e : (a &&& b).testBit x = false := by rw [h]; simp
  rw [Nat.testBit_and, ha, Bool.true_and] at e
  exact e
theorem g_sub_and {a b c : Nat} (h : b &&& c = 0) (hs : ∀ x, a.testBit x = true → b.testBit x = true) : a &&& c = 0 := by
  apply Nat.eq_of_testBit_eq
  intro x
  rw [Nat.testBit_and, Nat.zero_testBit]
  cases ha : a.testBit x with
  | false => rfl
  | true => rw [g_and_tb h (hs x ha)]; rfl
theorem g_sepF_sub {S : TS} {F F' : Nat} (hs : ∀ x, F'.testBit x = true → F.testBit x = true) : ∀ {σ : List Nat}, g_sepF S F σ → g_sepF S F' σ
  | [], _ => trivial
  | _ :: _, h => ⟨g_sub_and h.1 hs, fun z => g_sepF_sub hs (h.2 z)⟩
theorem g_sepF_run {S : TS} {F x : Nat} (hx : F.testBit x = true) : ∀ {σ : List Nat}, g_sepF S F σ → g_frun S x σ = false
  | [], _ => rfl
  | t :: σ, h => by
    show ((g_fi S t).testBit x || (g_nu S t && g_frun S x σ)) = false
    rw [g_and_tb h.1 hx, Bool.false_or]
    cases hn : g_nu S t with
    | false => rfl
    | true => rw [g_sepF_run hx (h.2 hn)]; rfl
section GR
variable {n : Nat} {τ : Tb} {root : Nat} {S : TS}
theorem g_F3 (hT : g_TY τ root S) {t : Nat} (ht : t ∈ g_P τ root) (hk : g_kd τ t = 3) : g_nu S t = false ∧ g_fi S t = g_fi S (g_lf τ t) ∧ g_af S t = g_af S (g_rt τ t) ||| (if g_nu S (g_rt τ t) then g_fi S (g_rt τ t) ||| g_af S (g_lf τ t) else 0) := by
  have e := hT.1 t ht
  have hn := ((hT.2.2 t ht).2.1 hk).1
  unfold g_F at e
  rw [if_neg (by omega), if_neg (by omega), if_pos hk, hn] at e
  refine ⟨by show (S t).1 = false; rw [e]; rfl, by show (S t).2.1 = _; rw [e]; simp, by show (S t).2.2 = _; rw [e]⟩
theorem g_F4 (hT : g_TY τ root S) {t : Nat} (ht : t ∈ g_P τ root) (hk : g_kd τ t = 4) : g_nu S t = (g_nu S (g_lf τ t) || g_nu S (g_rt τ t)) ∧ g_fi S t = g_fi S (g_lf τ t) ||| g_fi S (g_rt τ t) ∧ g_af S t = g_af S (g_lf τ t) ||| g_af S (g_rt τ t) := by
  have e := hT.1 t ht
  unfold g_F at e
  rw [if_neg (by omega), if_neg (by omega), if_neg (by omega), if_pos hk] at e
  refine ⟨by show (S t).1 = _; rw [e], by show (S t).2.1 = _; rw [e], by show (S t).2.2 = _; rw [e]⟩
theorem g_F5 (hT : g_TY τ root S) {t : Nat} (ht : t ∈ g_P τ root) (hk : g_kd τ t = 5) : ∃ k, g_B τ root (g_sg τ t) t = some k ∧ S t = S k := by
  obtain ⟨k, h1, -⟩ := (hT.2.2 t ht).1 hk
  have e := hT.1 t ht
  unfold g_F at e
  rw [if_neg (by omega), if_neg (by omega), if_neg (by omega), if_neg (by omega), if_pos hk, h1] at e
  exact ⟨k, h1, e⟩
theorem g_F6 (hT : g_TY τ root S) {t : Nat} (ht : t ∈ g_P τ root) (hk : g_kd τ t = 6) : S t = S (g_lf τ t) := by
  have e := hT.1 t ht
  unfold g_F at e
  rw [if_neg (by omega), if_neg (by omega), if_neg (by omega), if_neg (by omega), if_neg (by omega), if_pos hk] at e
  exact e
theorem g_F0 (hT : g_TY τ root S) {t : Nat} (ht : t ∈ g_P τ root) (hk : g_kd τ t = 0) : S t = (true, 0, 0) := by
  have e := hT.1 t ht
  unfold g_F at e
  rw [if_pos hk] at e
  exact e
theorem g_F2 (hT : g_TY τ root S) {t : Nat} (ht : t ∈ g_P τ root) (hk : g_kd τ t = 2) : S t = (false, 2 ^ g_sg τ t, 0) := by
  have e := hT.1 t ht
  unfold g_F at e
  rw [if_neg (by omega), if_pos hk] at e
  exact e
theorem g_F1 (hT : g_TY τ root S) {t : Nat} (ht : t ∈ g_P τ root) (hk : g_kd τ t = 1 ∨ 6 < g_kd τ t) : S t = (false, 0, 0) := by
  have e := hT.1 t ht
  unfold g_F at e
  rw [if_neg (by omega), if_neg (by omega), if_neg (by omega), if_neg (by omega), if_neg (by omega), if_neg (by omega)] at e
  exact e
/-- where a visit goes on: by what follows in the order of ranks; a case for each kind -/
theorem g_st_cases (h : g_WF n τ) (hr : root < n) (hT : g_TY τ root S) (x : Nat) {t : Nat} (ht : t ∈ g_P τ root) (σ : List Nat) {P : Nat × List Nat → Prop}
    (c0 : g_kd τ t = 0 → S t = (true, 0, 0) → P (0, σ))
    (c1 : S t = (false, 0, 0) → (g_kd τ t = 1 ∨ 6 < g_kd τ t) → P (2, σ))
    (c2 : g_kd τ t = 2 → S t = (false, 2 ^ g_sg τ t, 0) → P (if g_sg τ t = x then 1 else 2, σ))
    (c3 : g_kd τ t = 3 → g_lf τ t ∈ g_P τ root → g_rt τ t ∈ g_P τ root → g_rk τ root (g_lf τ t) < g_rk τ root t → P (0, g_lf τ t :: g_rt τ t :: σ))
    (c4 : ∀ c, g_kd τ t = 4 → (c = g_lf τ t ∧ g_cho τ S x t = 0 ∨ c = g_rt τ t ∧ g_cho τ S x t = 1) → c ∈ g_P τ root → g_rk τ root c < g_rk τ root t → P (0, c :: σ))
    (c4' : g_kd τ t = 4 → g_cho τ S x t = 2 → P (2, σ))
    (c56 : ∀ c, (g_kd τ t = 5 ∧ g_B τ root (g_sg τ t) t = some c ∨ g_kd τ t = 6 ∧ c = g_lf τ t) → S t = S c → c ∈ g_P τ root → g_rk τ root c < g_rk τ root t → P (0, c :: σ)) : P (g_st τ root S x t σ) := by
  unfold g_st
  by_cases k0 : g_kd τ t = 0
  · rw [if_pos k0]; exact c0 k0 (g_F0 hT ht k0)
  rw [if_neg k0]
  by_cases k2 : g_kd τ t = 2
  · rw [if_pos k2]; exact c2 k2 (g_F2 hT ht k2)
  rw [if_neg k2]
  by_cases k3 : g_kd τ t = 3
  · rw [if_pos k3]
    exact c3 k3 (g_lfP h hr ht (by omega)).1 (g_rtP h hr ht (by omega)).1 (g_rk_lf h hr ht (by omega)).2
  rw [if_neg k3]
  by_cases k4 : g_kd τ t = 4
  · rw [if_pos k4]
    have hc : g_cho τ S x t = 0 ∨ g_cho τ S x t = 1 ∨ g_cho τ S x t = 2 := by
      unfold g_cho
      repeat' split
      all_goals omega
    rcases hc with hc | hc | hc
    · rw [if_neg (by omega), if_pos hc]
      exact c4 _ k4 (Or.inl ⟨rfl, hc⟩) (g_lfP h hr ht (by omega)).1 (g_rk_lf h hr ht (by omega)).2
    · rw [if_neg (by omega), if_neg (by omega)]
      exact c4 _ k4 (Or.inr ⟨rfl, hc⟩) (g_rtP h hr ht (by omega)).1 (g_rk_rt h hr ht k4).2
    · rw [if_pos hc]
      exact c4' k4 hc
  rw [if_neg k4]
  by_cases k5 : g_kd τ t = 5
  · rw [if_pos k5]
    obtain ⟨k, h1, h2⟩ := g_F5 hT ht k5
    have q := g_rk_var h hr hT ht k5 h1
    rw [h1]
    exact c56 k (Or.inl ⟨k5, h1⟩) h2 q.1 q.2.2
  rw [if_neg k5]
  by_cases k6 : g_kd τ t = 6
  · rw [if_pos k6]
    exact c56 _ (Or.inr ⟨k6, rfl⟩) (g_F6 hT ht k6) (g_lfP h hr ht (by omega)).1 (g_rk_lf h hr ht (by omega)).2
  · rw [if_neg k6]
    have q : g_kd τ t = 1 ∨ 6 < g_kd τ t := by omega
    exact c1 (g_F1 hT ht q) q
/-- the part by which an either is read: what of it holds of the either -/
theorem g_cho_in (hT : g_TY τ root S) {x t c : Nat} (ht : t ∈ g_P τ root) (hk : g_kd τ t = 4) (hc : c = g_lf τ t ∧ g_cho τ S x t = 0 ∨ c = g_rt τ t ∧ g_cho τ S x t = 1) :
    (g_nu S c = true → g_nu S t = true) ∧ (∀ y, (g_fi S c).testBit y = true → (g_fi S t).testBit y = true) ∧ (∀ y, (g_af S c).testBit y = true → (g_af S t).testBit y = true) := by
  obtain ⟨e1, e2, e3⟩ := g_F4 hT ht hk
  rw [e1, e2, e3]
  rcases hc with ⟨rfl, -⟩ | ⟨rfl, -⟩
  · refine ⟨fun z => by rw [z]; rfl, fun y z => by rw [Nat.testBit_or, z]; rfl, fun y z => by rw [Nat.testBit_or, z]; rfl⟩
  · refine ⟨fun z => by rw [z, Bool.or_true], fun y z => by rw [Nat.testBit_or, z, Bool.or_true], fun y z => by rw [Nat.testBit_or, z, Bool.or_true]⟩
/-- .. it is read by the other part never -/
theorem g_cho_first (hT : g_TY τ root S) {x t c : Nat} (ht : t ∈ g_P τ root) (hk : g_kd τ t = 4) (hc : c = g_lf τ t ∧ g_cho τ S x t = 0 ∨ c = g_rt τ t ∧ g_cho τ S x t = 1) :
    ((g_fi S t).testBit x = true → (g_fi S c).testBit x = true) ∧ ((g_fi S t).testBit x = false → g_nu S c = true) := by
  obtain ⟨e1, e2, e3⟩ := g_F4 hT ht hk
  rw [e2, Nat.testBit_or]
  unfold g_cho at hc
  rcases hc with ⟨rfl, hc⟩ | ⟨rfl, hc⟩ <;> revert hc <;> cases (g_fi S (g_lf τ t)).testBit x <;> cases (g_fi S (g_rt τ t)).testBit x <;> cases g_nu S (g_lf τ t) <;> cases g_nu S (g_rt τ t) <;> simp
/-- a visit keeps the letters apart -/
theorem g_sep_st (h : g_WF n τ) (hr : root < n) (hT : g_TY τ root S) (x : Nat) {t : Nat} (ht : t ∈ g_P τ root) {σ : List Nat} (hσ : ∀ u, u ∈ σ → u ∈ g_P τ root) (hs : g_sep S (t :: σ)) : g_sep S (g_st τ root S x t σ).2 ∧ ∀ u, u ∈ (g_st τ root S x t σ).2 → u ∈ g_P τ root := by
  obtain ⟨s1, s2, s3⟩ := hs
  have cons : ∀ c, c ∈ g_P τ root → ∀ u, u ∈ c :: σ → u ∈ g_P τ root := fun c hc u hu => by
    rcases List.mem_cons.mp hu with rfl | hu
    · exact hc
    · exact hσ u hu
  refine g_st_cases h hr hT x ht σ (P := fun q => g_sep S q.2 ∧ ∀ u, u ∈ q.2 → u ∈ g_P τ root) ?_ ?_ ?_ ?_ ?_ ?_ ?_
  · intro _ _; exact ⟨s3, hσ⟩
  · intro _ _; exact ⟨s3, hσ⟩
  · intro _ _; exact ⟨s3, hσ⟩
  · intro k3 hl hrr _
    obtain ⟨e1, e2, e3⟩ := g_F3 hT ht k3
    obtain ⟨n1, n2⟩ := (hT.2.2 t ht).2.1 k3
    refine ⟨⟨⟨n2, fun hn => g_sepF_sub (fun y hy => ?_) s1⟩, (fun z => by rw [n1] at z; cases z), g_sepF_sub (fun y hy => ?_) s1, fun hn => g_sepF_sub (fun y hy => ?_) s1, s3⟩, ?_⟩
    · rw [e3, hn, if_pos rfl, Nat.testBit_or, Nat.testBit_or, hy, Bool.or_true, Bool.or_true]
    · rw [e3, Nat.testBit_or, hy, Bool.true_or]
    · rw [e3, hn, if_pos rfl, Nat.testBit_or, Nat.testBit_or, hy, Bool.true_or, Bool.or_true]
    · intro u hu
      rcases List.mem_cons.mp hu with rfl | hu
      · exact hl
      · exact cons _ hrr u hu
  · intro c k4 hc hcP _
    obtain ⟨q1, q2, q3⟩ := g_cho_in hT ht k4 hc
    exact ⟨⟨g_sepF_sub q3 s1, fun z => g_sepF_sub q2 (s2 (q1 z)), s3⟩, cons c hcP⟩
  · intro _ _; exact ⟨s3, hσ⟩
  · intro c _ e hcP _
    have e1 : g_af S c = g_af S t := by show (S c).2.2 = (S t).2.2; rw [e]
    have e2 : g_fi S c = g_fi S t := by show (S c).2.1 = (S t).2.1; rw [e]
    have e3 : g_nu S c = g_nu S t := by show (S c).1 = (S t).1; rw [e]
    refine ⟨⟨?_, ?_, s3⟩, cons c hcP⟩
    · rw [e1]; exact s1
    · rw [e2, e3]; exact s2
/-- a visit that goes on comes nearer to a letter -/
theorem g_M_st (h : g_WF n τ) (hr : root < n) (hT : g_TY τ root S) (x : Nat) {t : Nat} (ht : t ∈ g_P τ root) (σ : List Nat) (h0 : (g_st τ root S x t σ).1 = 0) : g_M τ root S (g_st τ root S x t σ).2 < g_M τ root S (t :: σ) := by
  revert h0
  refine g_st_cases h hr hT x ht σ (P := fun q => q.1 = 0 → g_M τ root S q.2 < g_M τ root S (t :: σ)) ?_ ?_ ?_ ?_ ?_ ?_ ?_
  · intro _ e _
    have e3 : g_nu S t = true := by show (S t).1 = true; rw [e]
    show g_M τ root S σ < g_rk τ root t + 1 + (if g_nu S t then g_M τ root S σ else 0)
    rw [e3, if_pos rfl]
    omega
  · intro _ _ z; cases z
  · intro _ _ z
    revert z
    show (if g_sg τ t = x then 1 else 2) = 0 → _
    split <;> intro z <;> cases z
  · intro k3 hl hrr hk _
    have n1 := ((hT.2.2 t ht).2.1 k3).1
    show g_rk τ root (g_lf τ t) + 1 + (if g_nu S (g_lf τ t) then _ else 0) < g_rk τ root t + 1 + (if g_nu S t then g_M τ root S σ else 0)
    rw [n1, (g_F3 hT ht k3).1]
    simp only [Bool.false_eq_true, if_false]
    omega
  · intro c k4 hc hcP hk _
    obtain ⟨q1, -, -⟩ := g_cho_in hT ht k4 hc
    show g_rk τ root c + 1 + (if g_nu S c then g_M τ root S σ else 0) < g_rk τ root t + 1 + (if g_nu S t then g_M τ root S σ else 0)
    cases hn : g_nu S c with
    | false => simp only [Bool.false_eq_true, if_false]; omega
    | true => rw [q1 hn, if_pos rfl]; omega
  · intro _ _ z; cases z
  · intro c _ e hcP hk _
    have e3 : g_nu S c = g_nu S t := by show (S c).1 = (S t).1; rw [e]
    show g_rk τ root c + 1 + (if g_nu S c then g_M τ root S σ else 0) < g_rk τ root t + 1 + (if g_nu S t then g_M τ root S σ else 0)
    rw [e3]
    omega
end GR
/-! sums of products of rows -/
def g_tl (f : Nat → Nat) : Nat → Nat := fun n => f (n + 1)
def g_cv : (Nat → Nat) → (Nat → Nat) → Nat → Nat
  | f, g, 0 => f 0 * g 0
  | f, g, m + 1 => f 0 * g (m + 1) + g_cv (g_tl f) g m
def g_sp (f : Nat → Nat) : Nat → Nat
  | 0 => 0
  | i + 1 => g_sp f i + f i
theorem g_sp_congr {f g : Nat → Nat} : ∀ {i : Nat}, (∀ j, j < i → f j = g j) → g_sp f i = g_sp g i
  | 0, _ => rfl
  | i + 1, h => by
    show g_sp f i + f i = g_sp g i + g i
    rw [g_sp_congr (fun j hj => h j (by omega)), h i (by omega)]
theorem g_sp_head (f : Nat → Nat) : ∀ i, g_sp f (i + 1) = f 0 + g_sp (g_tl f) i
  | 0 => by simp [g_sp]
  | i + 1 => by
    show g_sp f (i + 1) + f (i + 1) = f 0 + (g_sp (g_tl f) i + g_tl f i)
    rw [g_sp_head f i]
    show f 0 + g_sp (g_tl f) i + f (i + 1) = f 0 + (g_sp (g_tl f) i + f (i + 1))
    omega
theorem g_cv_sp : ∀ (m : Nat) (f g : Nat → Nat), g_cv f g m = g_sp (fun j => f j * g (m - j)) (m + 1)
  | 0, f, g => by simp [g_cv, g_sp]
  | m + 1, f, g => by
    rw [g_sp_head]
    show f 0 * g (m + 1) + g_cv (g_tl f) g m = f 0 * g (m + 1 - 0) + _
    rw [g_cv_sp m]
    congr 1
    apply g_sp_congr
    intro j _
    show f (j + 1) * g (m - j) = f (j + 1) * g (m + 1 - (j + 1))
    rw [show m + 1 - (j + 1) = m - j by omega]
theorem g_cv_congr {f f' g g' : Nat → Nat} {m : Nat} (hf : ∀ j, j ≤ m → f j = f' j) (hg : ∀ j, j ≤ m → g j = g' j) : g_cv f g m = g_cv f' g' m := by
  rw [g_cv_sp, g_cv_sp]
  exact g_sp_congr (fun j hj => by rw [hf j (by omega), hg (m - j) (by omega)])
theorem g_cv_add (f f' g : Nat → Nat) : ∀ m, g_cv (fun n => f n + f' n) g m = g_cv f g m + g_cv f' g m := by
  intro m
  induction m generalizing f f' with
  | zero => show (f 0 + f' 0) * g 0 = f 0 * g 0 + f' 0 * g 0; rw [Nat.add_mul]
  | succ m ih =>
    show (f 0 + f' 0) * g (m + 1) + g_cv (fun n => g_tl f n + g_tl f' n) g m = f 0 * g (m + 1) + g_cv (g_tl f) g m + (f' 0 * g (m + 1) + g_cv (g_tl f') g m)
    rw [ih, Nat.add_mul]
    omega
theorem g_cv_mul (a : Nat) (f g : Nat → Nat) : ∀ m, g_cv (fun n => a * f n) g m = a * g_cv f g m := by
  intro m
  induction m generalizing f with
  | zero => show a * f 0 * g 0 = a * (f 0 * g 0); rw [Nat.mul_assoc]
  | succ m ih =>
    show a * f 0 * g (m + 1) + g_cv (fun n => a * g_tl f n) g m = a * (f 0 * g (m + 1) + g_cv (g_tl f) g m)
    rw [ih, Nat.mul_add, Nat.mul_assoc]
theorem g_cv_last (f g : Nat → Nat) : ∀ m, g_cv f g (m + 1) = g_cv f (g_tl g) m + f (m + 1) * g 0 := by
  intro m
  induction m generalizing f with
  | zero => rfl
  | succ m ih =>
    show f 0 * g (m + 2) + g_cv (g_tl f) g (m + 1) = f 0 * g (m + 2) + g_cv (g_tl f) (g_tl g) m + f (m + 2) * g 0
    rw [ih]
    show _ = _ + f (m + 2) * g 0
    show f 0 * g (m + 2) + (g_cv (g_tl f) (g_tl g) m + f (m + 2) * g 0) = _
    omega
theorem g_cv_comm (f g : Nat → Nat) : ∀ m, g_cv f g m = g_cv g f m := by
  intro m
  induction m generalizing f with
  | zero => show f 0 * g 0 = g 0 * f 0; rw [Nat.mul_comm]
  | succ m ih =>
    rw [g_cv_last g f]
    show f 0 * g (m + 1) + g_cv (g_tl f) g m = _
    rw [ih, Nat.mul_comm]
    omega
theorem g_cv_assoc (f g k : Nat → Nat) : ∀ m, g_cv (g_cv f g) k m = g_cv f (g_cv g k) m := by
  intro m
  induction m generalizing f with
  | zero => show f 0 * g 0 * k 0 = f 0 * (g 0 * k 0); rw [Nat.mul_assoc]
  | succ m ih =>
    have e : g_tl (g_cv f g) = fun n => (fun n => f 0 * g_tl g n) n + g_cv (g_tl f) g n := rfl
    show f 0 * g 0 * k (m + 1) + g_cv (g_tl (g_cv f g)) k m = f 0 * (g 0 * k (m + 1) + g_cv (g_tl g) k m) + g_cv (g_tl f) (g_cv g k) m
    rw [e, g_cv_add, g_cv_mul, ih, Nat.mul_add, Nat.mul_assoc]
    omega
def g_d0 : Nat → Nat := fun n => if n = 0 then 1 else 0
theorem g_cv_d0 (f : Nat → Nat) (m : Nat) : g_cv g_d0 f m = f m := by
  cases m with
  | zero => show 1 * f 0 = f 0; omega
  | succ m =>
    have e : ∀ (z : Nat → Nat), (∀ n, z n = 0) → g_cv z f m = 0 := by
      intro z hz
      rw [g_cv_sp]
      have : ∀ i, g_sp (fun j => z j * f (m - j)) i = 0 := by
        intro i
        induction i with
        | zero => rfl
        | succ i ih => show g_sp _ i + z i * f (m - i) = 0; rw [ih, hz]; omega
      exact this _
    show 1 * f (m + 1) + g_cv (g_tl g_d0) f m = f (m + 1)
    rw [e (g_tl g_d0) (fun n => by show (if n + 1 = 0 then 1 else 0) = 0; simp)]
    omega
/-- how many words of n letters a term has; with fuel -/
def g_cf (τ : Tb) (root : Nat) : Nat → Nat → Nat → Nat
  | 0, _, _ => 0
  | f + 1, t, n => if g_kd τ t = 0 then (if n = 0 then 1 else 0) else if g_kd τ t = 2 then (if n = 1 then 1 else 0)
    else if g_kd τ t = 3 then g_sp (fun k => if k = 0 then 0 else g_cf τ root f (g_lf τ t) k * g_cf τ root f (g_rt τ t) (n - k)) (n + 1)
    else if g_kd τ t = 4 then g_cf τ root f (g_lf τ t) n + g_cf τ root f (g_rt τ t) n
    else if g_kd τ t = 5 then g_cf τ root f ((g_B τ root (g_sg τ t) t).getD 0) n else if g_kd τ t = 6 then g_cf τ root f (g_lf τ t) n else 0
def g_c (τ : Tb) (root t n : Nat) : Nat := g_cf τ root (2500 * n + g_rk τ root t + 1) t n
/-- how many words of m letters a row of terms has -/
def g_N (τ : Tb) (root : Nat) : List Nat → Nat → Nat
  | [] => g_d0
  | t :: σ => fun m => g_cv (g_N τ root σ) (g_c τ root t) m
section GC
variable {n : Nat} {τ : Tb} {root : Nat} {S : TS}
theorem g_rk_lt (h : g_WF n τ) (hr : root < n) (hT : g_TY τ root S) {t : Nat} (ht : t ∈ g_P τ root) : g_rk τ root t < 2500 := by
  have h48 := h.1
  have := g_J_lt h hr hT ht
  have := g_P_lt h hr ht
  show 49 * g_J τ root t + t < 2500
  omega
theorem g_cf_fuel (h : g_WF n τ) (hr : root < n) (hT : g_TY τ root S) : ∀ m k t, t ∈ g_P τ root → 2500 * k + g_rk τ root t ≤ m → ∀ f, m < f → g_cf τ root f t k = g_cf τ root (m + 1) t k := by
  intro m
  induction m using Nat.strongRecOn with
  | ind m ih =>
    intro k t ht hm f hf
    have key : ∀ c j, c ∈ g_P τ root → 2500 * j + g_rk τ root c < 2500 * k + g_rk τ root t → ∀ f1 f2, m - 1 < f1 → m - 1 < f2 → g_cf τ root f1 c j = g_cf τ root f2 c j := by
      intro c j hc hlt f1 f2 h1 h2
      rw [ih (m - 1) (by omega) j c hc (by omega) f1 h1, ih (m - 1) (by omega) j c hc (by omega) f2 h2]
    obtain ⟨f, rfl⟩ : ∃ j, f = j + 1 := ⟨f - 1, by omega⟩
    unfold g_cf
    by_cases k0 : g_kd τ t = 0
    · rw [if_pos k0, if_pos k0]
    rw [if_neg k0, if_neg k0]
    by_cases k2 : g_kd τ t = 2
    · rw [if_pos k2, if_pos k2]
    rw [if_neg k2, if_neg k2]
    by_cases k3 : g_kd τ t = 3
    · rw [if_pos k3, if_pos k3]
      have a := g_lfP h hr ht (by omega)
      have b := g_rtP h hr ht (by omega)
      have r1 := (g_rk_lf h hr ht (by omega)).2
      have r2 := g_rk_lt h hr hT b.1
      apply g_sp_congr
      intro j hj
      by_cases j0 : j = 0
      · rw [if_pos j0, if_pos j0]
      · rw [if_neg j0, if_neg j0, key _ j a.1 (by omega) f m (by omega) (by omega), key _ (k - j) b.1 (by omega) f m (by omega) (by omega)]
    rw [if_neg k3, if_neg k3]
    by_cases k4 : g_kd τ t = 4
    · rw [if_pos k4, if_pos k4]
      have a := g_lfP h hr ht (by omega)
      have b := g_rtP h hr ht (by omega)
      have r1 := (g_rk_lf h hr ht (by omega)).2
      have r2 := (g_rk_rt h hr ht k4).2
      rw [key _ k a.1 (by omega) f m (by omega) (by omega), key _ k b.1 (by omega) f m (by omega) (by omega)]
    rw [if_neg k4, if_neg k4]
    by_cases k5 : g_kd τ t = 5
    · rw [if_pos k5, if_pos k5]
      obtain ⟨d, h1, -⟩ := g_F5 hT ht k5
      have q := g_rk_var h hr hT ht k5 h1
      rw [h1]
      exact key d k q.1 (by have := q.2.2; omega) f m (by omega) (by omega)
    rw [if_neg k5, if_neg k5]
    by_cases k6 : g_kd τ t = 6
    · rw [if_pos k6, if_pos k6]
      have a := g_lfP h hr ht (by omega)
      have r1 := (g_rk_lf h hr ht (by omega)).2
      exact key _ k a.1 (by omega) f m (by omega) (by omega)
    · rw [if_neg k6, if_neg k6]
theorem g_cf_c (h : g_WF n τ) (hr : root < n) (hT : g_TY τ root S) {k t : Nat} (ht : t ∈ g_P τ root) {f : Nat} (hf : 2500 * k + g_rk τ root t < f) : g_cf τ root f t k = g_c τ root t k := by
  unfold g_c
  rw [g_cf_fuel h hr hT _ k t ht (Nat.le_refl _) f hf]
/-- what the numbers of words come to, kind by kind -/
theorem g_c_eq (h : g_WF n τ) (hr : root < n) (hT : g_TY τ root S) {t : Nat} (ht : t ∈ g_P τ root) (k : Nat) : g_c τ root t k =
    if g_kd τ t = 0 then (if k = 0 then 1 else 0) else if g_kd τ t = 2 then (if k = 1 then 1 else 0)
    else if g_kd τ t = 3 then g_sp (fun j => if j = 0 then 0 else g_c τ root (g_lf τ t) j * g_c τ root (g_rt τ t) (k - j)) (k + 1)
    else if g_kd τ t = 4 then g_c τ root (g_lf τ t) k + g_c τ root (g_rt τ t) k
    else if g_kd τ t = 5 then g_c τ root ((g_B τ root (g_sg τ t) t).getD 0) k else if g_kd τ t = 6 then g_c τ root (g_lf τ t) k else 0 := by
  rw [show g_c τ root t k = g_cf τ root (2500 * k + g_rk τ root t + 1) t k from rfl]
  conv => lhs; unfold g_cf
  by_cases k0 : g_kd τ t = 0
  · rw [if_pos k0, if_pos k0]
  rw [if_neg k0, if_neg k0]
  by_cases k2 : g_kd τ t = 2
  · rw [if_pos k2, if_pos k2]
  rw [if_neg k2, if_neg k2]
  by_cases k3 : g_kd τ t = 3
  · rw [if_pos k3, if_pos k3]
    have a := g_lfP h hr ht (by omega)
    have b := g_rtP h hr ht (by omega)
    have r1 := (g_rk_lf h hr ht (by omega)).2
    have r2 := g_rk_lt h hr hT b.1
    apply g_sp_congr
    intro j hj
    by_cases j0 : j = 0
    · rw [if_pos j0, if_pos j0]
    · rw [if_neg j0, if_neg j0, g_cf_c h hr hT a.1 (by omega), g_cf_c h hr hT b.1 (by omega)]
  rw [if_neg k3, if_neg k3]
  by_cases k4 : g_kd τ t = 4
  · rw [if_pos k4, if_pos k4]
    have a := g_lfP h hr ht (by omega)
    have b := g_rtP h hr ht (by omega)
    have r1 := (g_rk_lf h hr ht (by omega)).2
    have r2 := (g_rk_rt h hr ht k4).2
    rw [g_cf_c h hr hT a.1 (by omega), g_cf_c h hr hT b.1 (by omega)]
  rw [if_neg k4, if_neg k4]
  by_cases k5 : g_kd τ t = 5
  · rw [if_pos k5, if_pos k5]
    obtain ⟨d, h1, -⟩ := g_F5 hT ht k5
    have q := g_rk_var h hr hT ht k5 h1
    rw [h1]
    exact g_cf_c h hr hT q.1 (by have := q.2.2; show 2500 * k + g_rk τ root d < _; omega)
  rw [if_neg k5, if_neg k5]
  by_cases k6 : g_kd τ t = 6
  · rw [if_pos k6, if_pos k6]
    have a := g_lfP h hr ht (by omega)
    have r1 := (g_rk_lf h hr ht (by omega)).2
    exact g_cf_c h hr hT a.1 (by omega)
  · rw [if_neg k6, if_neg k6]
/-- the empty word -/
theorem g_c0 (h : g_WF n τ) (hr : root < n) (hT : g_TY τ root S) : ∀ r t, t ∈ g_P τ root → g_rk τ root t ≤ r → g_c τ root t 0 = if g_nu S t then 1 else 0 := by
  intro r
  induction r using Nat.strongRecOn with
  | ind r ih =>
    intro t ht hk
    have go : ∀ c, c ∈ g_P τ root → g_rk τ root c < g_rk τ root t → g_c τ root c 0 = if g_nu S c then 1 else 0 := fun c hc hlt => ih (g_rk τ root c) (by omega) c hc (Nat.le_refl _)
    rw [g_c_eq h hr hT ht]
    by_cases k0 : g_kd τ t = 0
    · rw [if_pos k0, if_pos rfl, show g_nu S t = true by show (S t).1 = true; rw [g_F0 hT ht k0]]; rfl
    rw [if_neg k0]
    by_cases k2 : g_kd τ t = 2
    · rw [if_pos k2, show g_nu S t = false by show (S t).1 = false; rw [g_F2 hT ht k2]]; rfl
    rw [if_neg k2]
    by_cases k3 : g_kd τ t = 3
    · rw [if_pos k3, (g_F3 hT ht k3).1]; rfl
    rw [if_neg k3]
    by_cases k4 : g_kd τ t = 4
    · rw [if_pos k4, (g_F4 hT ht k4).1]
      have a := g_lfP h hr ht (by omega)
      have b := g_rtP h hr ht (by omega)
      rw [go _ a.1 (g_rk_lf h hr ht (by omega)).2, go _ b.1 (g_rk_rt h hr ht k4).2]
      have := ((hT.2.2 t ht).2.2 k4).1
      revert this
      cases g_nu S (g_lf τ t) <;> cases g_nu S (g_rt τ t) <;> simp
    rw [if_neg k4]
    by_cases k5 : g_kd τ t = 5
    · rw [if_pos k5]
      obtain ⟨d, h1, h2⟩ := g_F5 hT ht k5
      have q := g_rk_var h hr hT ht k5 h1
      rw [h1, show g_nu S t = g_nu S d by show (S t).1 = (S d).1; rw [h2]]
      exact go d q.1 q.2.2
    rw [if_neg k5]
    by_cases k6 : g_kd τ t = 6
    · rw [if_pos k6, show g_nu S t = g_nu S (g_lf τ t) by show (S t).1 = (S _).1; rw [g_F6 hT ht k6]]
      have a := g_lfP h hr ht (by omega)
      exact go _ a.1 (g_rk_lf h hr ht (by omega)).2
    · rw [if_neg k6, show g_nu S t = false by show (S t).1 = false; rw [g_F1 hT ht (by omega)]]; rfl
/-- the numbers of a row, when its first term is visited -/
theorem g_N_cv (t : Nat) (σ : List Nat) (m : Nat) : g_N τ root (t :: σ) m = g_cv (g_N τ root σ) (g_c τ root t) m := rfl
theorem g_N_same {t c : Nat} {σ : List Nat} {m : Nat} (he : ∀ k, g_c τ root t k = g_c τ root c k) : g_N τ root (t :: σ) m = g_N τ root (c :: σ) m := by
  rw [g_N_cv, g_N_cv]
  exact g_cv_congr (fun _ _ => rfl) (fun j _ => he j)
theorem g_N_d {t : Nat} {σ : List Nat} {m : Nat} (he : ∀ k, g_c τ root t k = g_d0 k) : g_N τ root (t :: σ) m = g_N τ root σ m := by
  rw [g_N_cv, g_cv_congr (fun _ _ => rfl) (fun j _ => he j), g_cv_comm, g_cv_d0]
theorem g_N_z {t : Nat} {σ : List Nat} {m : Nat} (he : ∀ k, g_c τ root t k = 0) : g_N τ root (t :: σ) m = 0 := by
  rw [g_N_cv, g_cv_congr (f' := g_N τ root σ) (g' := fun k => 0 * g_d0 k) (fun _ _ => rfl) (fun j _ => by rw [he j]; simp), g_cv_comm, g_cv_mul]
  simp
theorem g_N_sum {t a b : Nat} {σ : List Nat} {m : Nat} (he : ∀ k, g_c τ root t k = g_c τ root a k + g_c τ root b k) : g_N τ root (t :: σ) m = g_N τ root (a :: σ) m + g_N τ root (b :: σ) m := by
  rw [g_N_cv, g_cv_congr (fun _ _ => rfl) (fun j _ => he j), g_cv_comm, g_cv_add, g_cv_comm (g_c τ root a), g_cv_comm (g_c τ root b)]
  rfl
theorem g_N_pair {t a b : Nat} {σ : List Nat} {m : Nat} (h0 : g_c τ root a 0 = 0) (he : ∀ k, g_c τ root t k = g_sp (fun j => if j = 0 then 0 else g_c τ root a j * g_c τ root b (k - j)) (k + 1)) : g_N τ root (t :: σ) m = g_N τ root (a :: b :: σ) m := by
  have e : ∀ k, g_c τ root t k = g_cv (g_c τ root b) (g_c τ root a) k := fun k => by
    rw [he, g_cv_comm, g_cv_sp]
    apply g_sp_congr
    intro j _
    by_cases j0 : j = 0
    · rw [if_pos j0, j0, h0]; simp
    · rw [if_neg j0]
  rw [g_N_cv, g_cv_congr (fun _ _ => rfl) (fun j _ => e j), ← g_cv_assoc]
  rfl
theorem g_N_let {t : Nat} {σ : List Nat} {m : Nat} (he : ∀ k, g_c τ root t k = if k = 1 then 1 else 0) : g_N τ root (t :: σ) 0 = 0 ∧ g_N τ root (t :: σ) (m + 1) = g_N τ root σ m := by
  refine ⟨?_, ?_⟩
  · rw [g_N_cv]
    show g_N τ root σ 0 * g_c τ root t 0 = 0
    rw [he]; simp
  · rw [g_N_cv, g_cv_last, he]
    have e : g_cv (g_N τ root σ) (g_tl (g_c τ root t)) m = g_N τ root σ m := by
      rw [g_cv_congr (g' := g_d0) (fun _ _ => rfl) (fun j _ => by show g_c τ root t (j + 1) = _; rw [he]; unfold g_d0; by_cases z : j = 0 <;> simp [z]), g_cv_comm, g_cv_d0]
    rw [e]
    simp
end GC
/-- reading on for the letter x, with fuel: 0 nothing is left, 1 the letter is read, 2 it can't be done -/
def g_go (τ : Tb) (root : Nat) (S : TS) (x : Nat) : Nat → List Nat → Nat × List Nat
  | 0, σ => (3, σ)
  | _ + 1, [] => (0, [])
  | f + 1, t :: σ => if (g_st τ root S x t σ).1 = 0 then g_go τ root S x f (g_st τ root S x t σ).2 else g_st τ root S x t σ
def g_run (τ : Tb) (root : Nat) (S : TS) (x : Nat) (σ : List Nat) : Nat × List Nat := g_go τ root S x (g_M τ root S σ + 1) σ
/-- how many words of m letters come behind the letter x -/
def g_Nx (τ : Tb) (root : Nat) (S : TS) (x : Nat) (σ : List Nat) (m : Nat) : Nat := if (g_run τ root S x σ).1 = 1 then g_N τ root (g_run τ root S x σ).2 m else 0
/-- the second parts that are left behind on the way to the letter x, the outermost first -/
def g_pth (τ : Tb) (root : Nat) (S : TS) (x : Nat) : Nat → Nat → List Nat
  | 0, _ => []
  | f + 1, t => if g_kd τ t = 3 then g_rt τ t :: g_pth τ root S x f (g_lf τ t) else if g_kd τ t = 4 then (if g_cho τ S x t = 1 then g_pth τ root S x f (g_rt τ t) else g_pth τ root S x f (g_lf τ t))
    else if g_kd τ t = 5 then g_pth τ root S x f ((g_B τ root (g_sg τ t) t).getD 0) else if g_kd τ t = 6 then g_pth τ root S x f (g_lf τ t) else []
theorem g_sp_add (f g : Nat → Nat) : ∀ i, g_sp (fun x => f x + g x) i = g_sp f i + g_sp g i
  | 0 => rfl
  | i + 1 => by
    show g_sp (fun x => f x + g x) i + (f i + g i) = g_sp f i + f i + (g_sp g i + g i)
    rw [g_sp_add f g i]
    omega
theorem g_sp_zero {f : Nat → Nat} : ∀ {i : Nat}, (∀ j, j < i → f j = 0) → g_sp f i = 0
  | 0, _ => rfl
  | i + 1, h => by
    show g_sp f i + f i = 0
    rw [g_sp_zero (fun j hj => h j (by omega)), h i (by omega)]
theorem g_sp_one {a v : Nat} : ∀ {i : Nat}, a < i → g_sp (fun x => if a = x then v else 0) i = v
  | 0, h => by omega
  | i + 1, h => by
    show g_sp _ i + (if a = i then v else 0) = v
    by_cases e : a = i
    · rw [if_pos e, g_sp_zero (fun j hj => if_neg (by omega))]
      omega
    · rw [if_neg e, g_sp_one (by omega)]
      omega
theorem g_sp_le {f : Nat → Nat} {B : Nat} : ∀ {i : Nat}, (∀ j, j < i → f j ≤ B) → g_sp f i ≤ i * B
  | 0, _ => by show 0 ≤ 0 * B; omega
  | i + 1, h => by
    show g_sp f i + f i ≤ (i + 1) * B
    have a := g_sp_le (f := f) (B := B) (i := i) (fun j hj => h j (by omega))
    have b := h i (by omega)
    rw [Nat.add_mul]
    omega
section GN
variable {n : Nat} {τ : Tb} {root : Nat} {S : TS}
theorem g_st_mem (h : g_WF n τ) (hr : root < n) (hT : g_TY τ root S) (x : Nat) {t : Nat} (ht : t ∈ g_P τ root) {σ : List Nat} (hσ : ∀ u, u ∈ σ → u ∈ g_P τ root) : ∀ u, u ∈ (g_st τ root S x t σ).2 → u ∈ g_P τ root := by
  have cons : ∀ c, c ∈ g_P τ root → ∀ u, u ∈ c :: σ → u ∈ g_P τ root := fun c hc u hu => by
    rcases List.mem_cons.mp hu with rfl | hu
    · exact hc
    · exact hσ u hu
  refine g_st_cases h hr hT x ht σ (P := fun q => ∀ u, u ∈ q.2 → u ∈ g_P τ root) (fun _ _ => hσ) (fun _ _ => hσ) (fun _ _ => hσ) ?_ (fun c _ _ hc _ => cons c hc) (fun _ _ => hσ) (fun c _ _ hc _ => cons c hc)
  intro _ hl hrr _ u hu
  rcases List.mem_cons.mp hu with rfl | hu
  · exact hl
  · exact cons _ hrr u hu
theorem g_go_fuel (h : g_WF n τ) (hr : root < n) (hT : g_TY τ root S) (x : Nat) : ∀ m σ, (∀ u, u ∈ σ → u ∈ g_P τ root) → g_M τ root S σ ≤ m → ∀ f, m < f → g_go τ root S x f σ = g_go τ root S x (m + 1) σ := by
  intro m
  induction m using Nat.strongRecOn with
  | ind m ih =>
    intro σ hσ hm f hf
    obtain ⟨f, rfl⟩ : ∃ j, f = j + 1 := ⟨f - 1, by omega⟩
    cases σ with
    | nil => rfl
    | cons t σ =>
      have ht := hσ t (by simp)
      show (if _ then _ else _) = (if _ then _ else _)
      by_cases h0 : (g_st τ root S x t σ).1 = 0
      · rw [if_pos h0, if_pos h0]
        have a := g_M_st h hr hT x ht σ h0
        have b := g_st_mem h hr hT x ht (σ := σ) (fun u hu => hσ u (by simp [hu]))
        rw [ih (m - 1) (by omega) _ b (by omega) f (by omega), ih (m - 1) (by omega) _ b (by omega) m (by omega)]
      · rw [if_neg h0, if_neg h0]
theorem g_run_nil (x : Nat) : g_run τ root S x [] = (0, []) := rfl
theorem g_run_cons (h : g_WF n τ) (hr : root < n) (hT : g_TY τ root S) (x : Nat) {t : Nat} {σ : List Nat} (hσ : ∀ u, u ∈ t :: σ → u ∈ g_P τ root) : g_run τ root S x (t :: σ) = if (g_st τ root S x t σ).1 = 0 then g_run τ root S x (g_st τ root S x t σ).2 else g_st τ root S x t σ := by
  have ht := hσ t (by simp)
  unfold g_run
  show (if _ then _ else _) = _
  by_cases h0 : (g_st τ root S x t σ).1 = 0
  · rw [if_pos h0, if_pos h0]
    have a := g_M_st h hr hT x ht σ h0
    have b := g_st_mem h hr hT x ht (σ := σ) (fun u hu => hσ u (by simp [hu]))
    exact g_go_fuel h hr hT x _ _ b (Nat.le_refl _) _ a
  · rw [if_neg h0, if_neg h0]
/-- induction along a reading -/
theorem g_run_ind (h : g_WF n τ) (hr : root < n) (hT : g_TY τ root S) (x : Nat) {P : List Nat → Prop} (hn : P []) (hs : ∀ t σ, (∀ u, u ∈ t :: σ → u ∈ g_P τ root) → ((g_st τ root S x t σ).1 = 0 → P (g_st τ root S x t σ).2) → P (t :: σ)) : ∀ σ, (∀ u, u ∈ σ → u ∈ g_P τ root) → P σ := by
  have key : ∀ m σ, (∀ u, u ∈ σ → u ∈ g_P τ root) → g_M τ root S σ ≤ m → P σ := by
    intro m
    induction m using Nat.strongRecOn with
    | ind m ih =>
      intro σ hσ hm
      cases σ with
      | nil => exact hn
      | cons t σ =>
        have ht := hσ t (by simp)
        refine hs t σ hσ (fun h0 => ?_)
        have a := g_M_st h hr hT x ht σ h0
        exact ih (g_M τ root S (g_st τ root S x t σ).2) (by omega) _ (g_st_mem h hr hT x ht (σ := σ) (fun u hu => hσ u (by simp [hu]))) (Nat.le_refl _)
  exact fun σ hσ => key _ σ hσ (Nat.le_refl _)
/-- a row whose words never begin with x isn't read for x -/
theorem g_fail (h : g_WF n τ) (hr : root < n) (hT : g_TY τ root S) (x : Nat) : ∀ σ, (∀ u, u ∈ σ → u ∈ g_P τ root) → g_frun S x σ = false → (g_run τ root S x σ).1 ≠ 1 := by
  refine g_run_ind h hr hT x (P := fun σ => g_frun S x σ = false → (g_run τ root S x σ).1 ≠ 1) (fun _ => by rw [g_run_nil]; decide) ?_
  intro t σ hσ ih hf
  have ht := hσ t (by simp)
  have hf' : ((g_fi S t).testBit x || (g_nu S t && g_frun S x σ)) = false := hf
  rw [Bool.or_eq_false_iff] at hf'
  obtain ⟨f1, f2⟩ := hf'
  rw [g_run_cons h hr hT x hσ]
  revert ih
  refine g_st_cases h hr hT x ht σ (P := fun q => (q.1 = 0 → g_frun S x q.2 = false → (g_run τ root S x q.2).1 ≠ 1) → (if q.1 = 0 then g_run τ root S x q.2 else q).1 ≠ 1) ?_ ?_ ?_ ?_ ?_ ?_ ?_
  · intro _ e ih
    rw [if_pos rfl]
    refine ih rfl ?_
    rw [show g_nu S t = true by show (S t).1 = true; rw [e], Bool.true_and] at f2
    exact f2
  · intro _ _ _; simp
  · intro k2 e _
    have : (g_fi S t).testBit x = decide (g_sg τ t = x) := by
      show (S t).2.1.testBit x = _
      rw [e]
      exact Nat.testBit_two_pow
    rw [this] at f1
    have hne : ¬ g_sg τ t = x := by simpa using f1
    rw [if_neg hne]
    simp
  · intro k3 hl hrr _ ih
    rw [if_pos rfl]
    refine ih rfl ?_
    obtain ⟨-, e2, -⟩ := g_F3 hT ht k3
    have n1 := ((hT.2.2 t ht).2.1 k3).1
    show ((g_fi S (g_lf τ t)).testBit x || (g_nu S (g_lf τ t) && _)) = false
    rw [n1, Bool.false_and, Bool.or_false, ← e2]
    exact f1
  · intro c k4 hc hcP _ ih
    rw [if_pos rfl]
    refine ih rfl ?_
    obtain ⟨q1, q2, -⟩ := g_cho_in hT ht k4 hc
    show ((g_fi S c).testBit x || (g_nu S c && g_frun S x σ)) = false
    rw [Bool.or_eq_false_iff]
    refine ⟨?_, ?_⟩
    · cases hb : (g_fi S c).testBit x with
      | false => rfl
      | true => rw [q2 x hb] at f1; cases f1
    · cases hb : g_nu S c with
      | false => rfl
      | true => rw [q1 hb, Bool.true_and] at f2; rw [f2]; rfl
  · intro _ _ _; simp
  · intro c _ e hcP _ ih
    rw [if_pos rfl]
    refine ih rfl ?_
    show ((S c).2.1.testBit x || ((S c).1 && g_frun S x σ)) = false
    rw [← e]
    exact hf
theorem g_run_sep (h : g_WF n τ) (hr : root < n) (hT : g_TY τ root S) (x : Nat) : ∀ σ, (∀ u, u ∈ σ → u ∈ g_P τ root) → g_sep S σ → g_sep S (g_run τ root S x σ).2 ∧ ∀ u, u ∈ (g_run τ root S x σ).2 → u ∈ g_P τ root := by
  refine g_run_ind h hr hT x (P := fun σ => g_sep S σ → g_sep S (g_run τ root S x σ).2 ∧ ∀ u, u ∈ (g_run τ root S x σ).2 → u ∈ g_P τ root) (fun _ => ⟨trivial, fun u hu => by rw [g_run_nil] at hu; cases hu⟩) ?_
  intro t σ hσ ih hs
  have ht := hσ t (by simp)
  have q := g_sep_st h hr hT x ht (fun u hu => hσ u (by simp [hu])) hs
  rw [g_run_cons h hr hT x hσ]
  by_cases h0 : (g_st τ root S x t σ).1 = 0
  · rw [if_pos h0]
    exact ih h0 q.1
  · rw [if_neg h0]
    exact q
/-- either part of an either keeps the letters apart -/
theorem g_part_sep (hT : g_TY τ root S) {t c : Nat} (ht : t ∈ g_P τ root) (hk : g_kd τ t = 4) (hc : c = g_lf τ t ∨ c = g_rt τ t) {σ : List Nat} (hs : g_sep S (t :: σ)) : g_sep S (c :: σ) := by
  obtain ⟨s1, s2, s3⟩ := hs
  obtain ⟨e1, e2, e3⟩ := g_F4 hT ht hk
  rw [e3] at s1
  rw [e1, e2] at s2
  rcases hc with rfl | rfl
  · exact ⟨g_sepF_sub (fun y z => by rw [Nat.testBit_or, z]; rfl) s1, fun z => g_sepF_sub (fun y z => by rw [Nat.testBit_or, z]; rfl) (s2 (by rw [z]; rfl)), s3⟩
  · exact ⟨g_sepF_sub (fun y z => by rw [Nat.testBit_or, z, Bool.or_true]) s1, fun z => g_sepF_sub (fun y z => by rw [Nat.testBit_or, z, Bool.or_true]) (s2 (by rw [z, Bool.or_true])), s3⟩
/-- .. and only one of them is read for x -/
theorem g_part_Nx (h : g_WF n τ) (hr : root < n) (hT : g_TY τ root S) (x : Nat) {t : Nat} (ht : t ∈ g_P τ root) (hk : g_kd τ t = 4) {σ : List Nat} (hσ : ∀ u, u ∈ σ → u ∈ g_P τ root) (hs : g_sep S (t :: σ)) (m : Nat) :
    g_Nx τ root S x (t :: σ) m = g_Nx τ root S x (g_lf τ t :: σ) m + g_Nx τ root S x (g_rt τ t :: σ) m := by
  obtain ⟨s1, s2, s3⟩ := hs
  obtain ⟨e1, e2, e3⟩ := g_F4 hT ht hk
  obtain ⟨d1, d2⟩ := (hT.2.2 t ht).2.2 hk
  have a := g_lfP h hr ht (by omega)
  have b := g_rtP h hr ht (by omega)
  have cons : ∀ c, c ∈ g_P τ root → ∀ u, u ∈ c :: σ → u ∈ g_P τ root := fun c hc u hu => by
    rcases List.mem_cons.mp hu with rfl | hu
    · exact hc
    · exact hσ u hu
  have zero : ∀ c, c ∈ g_P τ root → (g_fi S c).testBit x = false → (g_nu S c && g_frun S x σ) = false → g_Nx τ root S x (c :: σ) m = 0 := fun c hc f1 f2 => by
    unfold g_Nx
    rw [if_neg (g_fail h hr hT x (c :: σ) (cons c hc) (by show (_ || _) = false; rw [f1, f2]; rfl))]
  have E : g_run τ root S x (t :: σ) = if g_cho τ S x t = 2 then (2, σ) else if g_cho τ S x t = 0 then g_run τ root S x (g_lf τ t :: σ) else g_run τ root S x (g_rt τ t :: σ) := by
    rw [g_run_cons h hr hT x (cons t ht)]
    have e : g_st τ root S x t σ = (if g_cho τ S x t = 2 then (2, σ) else if g_cho τ S x t = 0 then (0, g_lf τ t :: σ) else (0, g_rt τ t :: σ)) := by
      unfold g_st
      rw [if_neg (by omega), if_neg (by omega), if_neg (by omega), if_pos hk]
    rw [e]
    repeat' split
    all_goals simp_all
  have fr : (g_fi S t).testBit x = true → g_nu S t = true → g_frun S x σ = false := fun z1 z2 => g_sepF_run z1 (s2 z2)
  rw [e2, Nat.testBit_or] at fr
  rw [e1] at fr
  have NE : g_Nx τ root S x (t :: σ) m = if g_cho τ S x t = 2 then 0 else if g_cho τ S x t = 0 then g_Nx τ root S x (g_lf τ t :: σ) m else g_Nx τ root S x (g_rt τ t :: σ) m := by
    unfold g_Nx
    rw [E]
    repeat' split
    all_goals simp_all
  rw [NE]
  have dis : (g_fi S (g_lf τ t)).testBit x = true → (g_fi S (g_rt τ t)).testBit x = false := fun z => g_and_tb d2 z
  by_cases b1 : (g_fi S (g_lf τ t)).testBit x = true
  · have hc : g_cho τ S x t = 0 := by unfold g_cho; rw [if_pos b1]
    rw [if_neg (by omega), if_pos hc, zero _ b.1 (dis b1) ?_]
    · omega
    · cases q : g_nu S (g_rt τ t) with
      | false => rfl
      | true => rw [fr (by rw [b1]; rfl) (by rw [q, Bool.or_true])]; rfl
  rw [Bool.not_eq_true] at b1
  by_cases b2 : (g_fi S (g_rt τ t)).testBit x = true
  · have hc : g_cho τ S x t = 1 := by unfold g_cho; rw [if_neg (by rw [b1]; decide), if_pos b2]
    rw [if_neg (by omega), if_neg (by omega), zero _ a.1 b1 ?_]
    · omega
    · cases q : g_nu S (g_lf τ t) with
      | false => rfl
      | true => rw [fr (by rw [b2, Bool.or_true]) (by rw [q]; rfl)]; rfl
  rw [Bool.not_eq_true] at b2
  by_cases b3 : g_nu S (g_lf τ t) = true
  · have hc : g_cho τ S x t = 0 := by unfold g_cho; rw [if_neg (by rw [b1]; decide), if_neg (by rw [b2]; decide), if_pos b3]
    rw [b3, Bool.true_and] at d1
    rw [if_neg (by omega), if_pos hc, zero _ b.1 b2 (by rw [d1]; rfl)]
    omega
  rw [Bool.not_eq_true] at b3
  rw [zero _ a.1 b1 (by rw [b3]; rfl)]
  by_cases b4 : g_nu S (g_rt τ t) = true
  · have hc : g_cho τ S x t = 1 := by unfold g_cho; rw [if_neg (by rw [b1]; decide), if_neg (by rw [b2]; decide), if_neg (by rw [b3]; decide), if_pos b4]
    rw [if_neg (by omega), if_neg (by omega)]
    omega
  · rw [Bool.not_eq_true] at b4
    have hc : g_cho τ S x t = 2 := by unfold g_cho; rw [if_neg (by rw [b1]; decide), if_neg (by rw [b2]; decide), if_neg (by rw [b3]; decide), if_neg (by rw [b4]; decide)]
    rw [if_pos hc, zero _ b.1 b2 (by rw [b4]; rfl)]
/-- every word begins with one of the eight letters -/
theorem g_cons (h : g_WF n τ) (hr : root < n) (hT : g_TY τ root S) : ∀ k σ, (∀ u, u ∈ σ → u ∈ g_P τ root) → g_sep S σ → g_M τ root S σ ≤ k → ∀ m, g_N τ root σ (m + 1) = g_sp (fun x => g_Nx τ root S x σ m) 8 := by
  intro k
  induction k using Nat.strongRecOn with
  | ind k ih =>
    intro σ hσ hs hk m
    cases σ with
    | nil =>
      rw [g_sp_zero (fun x _ => by unfold g_Nx; rw [g_run_nil, if_neg (by decide)])]
      rfl
    | cons t σ =>
      have ht := hσ t (by simp)
      have htl : ∀ u, u ∈ σ → u ∈ g_P τ root := fun u hu => hσ u (by simp [hu])
      have cons : ∀ c, c ∈ g_P τ root → ∀ u, u ∈ c :: σ → u ∈ g_P τ root := fun c hc u hu => by
        rcases List.mem_cons.mp hu with rfl | hu
        · exact hc
        · exact htl u hu
      have hce := g_c_eq h hr hT ht
      -- a visit that doesn't look at the letter
      have step : ∀ σ', (∀ x, g_st τ root S x t σ = (0, σ')) → g_N τ root (t :: σ) (m + 1) = g_N τ root σ' (m + 1) → g_N τ root (t :: σ) (m + 1) = g_sp (fun x => g_Nx τ root S x (t :: σ) m) 8 := by
        intro σ' h1 h2
        have hm := g_M_st h hr hT 0 ht σ (by rw [h1])
        have hq := g_sep_st h hr hT 0 ht htl hs
        rw [h1] at hm hq
        rw [h2, ih _ (Nat.lt_of_lt_of_le hm hk) σ' hq.2 hq.1 (Nat.le_refl _) m]
        apply g_sp_congr
        intro x _
        unfold g_Nx
        rw [g_run_cons h hr hT x hσ, h1, if_pos rfl]
      by_cases k0 : g_kd τ t = 0
      · exact step σ (fun x => by unfold g_st; rw [if_pos k0]) (g_N_d (fun j => by rw [hce, if_pos k0]; rfl))
      by_cases k2 : g_kd τ t = 2
      · have hl := (h.2 t (g_P_lt h hr ht)).2.1 k2
        rw [(g_N_let (σ := σ) (m := m) (fun j => by rw [hce, if_neg k0, if_pos k2])).2]
        rw [show (fun x => g_Nx τ root S x (t :: σ) m) = fun x => if g_sg τ t = x then g_N τ root σ m else 0 from funext fun x => ?_]
        · exact (g_sp_one hl).symm
        · unfold g_Nx
          rw [g_run_cons h hr hT x hσ]
          unfold g_st
          rw [if_neg k0, if_pos k2]
          by_cases e : g_sg τ t = x
          · simp [e]
          · simp [e]
      by_cases k3 : g_kd τ t = 3
      · have a := g_lfP h hr ht (by omega)
        refine step (g_lf τ t :: g_rt τ t :: σ) (fun x => by unfold g_st; rw [if_neg k0, if_neg k2, if_pos k3]) (g_N_pair ?_ (fun j => by rw [hce, if_neg k0, if_neg k2, if_pos k3]))
        rw [g_c0 h hr hT _ _ a.1 (Nat.le_refl _), ((hT.2.2 t ht).2.1 k3).1]
        rfl
      by_cases k4 : g_kd τ t = 4
      · have a := g_lfP h hr ht (by omega)
        have b := g_rtP h hr ht (by omega)
        obtain ⟨e1, -, -⟩ := g_F4 hT ht k4
        have r1 := (g_rk_lf h hr ht (by omega)).2
        have r2 := (g_rk_rt h hr ht k4).2
        have m1 : g_M τ root S (g_lf τ t :: σ) < g_M τ root S (t :: σ) := by
          show g_rk τ root (g_lf τ t) + 1 + (if g_nu S (g_lf τ t) then g_M τ root S σ else 0) < g_rk τ root t + 1 + (if g_nu S t then g_M τ root S σ else 0)
          rw [e1]
          cases g_nu S (g_lf τ t) <;> cases g_nu S (g_rt τ t) <;> simp <;> omega
        have m2 : g_M τ root S (g_rt τ t :: σ) < g_M τ root S (t :: σ) := by
          show g_rk τ root (g_rt τ t) + 1 + (if g_nu S (g_rt τ t) then g_M τ root S σ else 0) < g_rk τ root t + 1 + (if g_nu S t then g_M τ root S σ else 0)
          rw [e1]
          cases g_nu S (g_lf τ t) <;> cases g_nu S (g_rt τ t) <;> simp <;> omega
        rw [g_N_sum (a := g_lf τ t) (b := g_rt τ t) (fun j => by rw [hce, if_neg k0, if_neg k2, if_neg k3, if_pos k4])]
        rw [ih _ (by omega) _ (cons _ a.1) (g_part_sep hT ht k4 (Or.inl rfl) hs) (Nat.le_refl _) m, ih _ (by omega) _ (cons _ b.1) (g_part_sep hT ht k4 (Or.inr rfl) hs) (Nat.le_refl _) m, ← g_sp_add]
        apply g_sp_congr
        intro x _
        exact (g_part_Nx h hr hT x ht k4 htl hs m).symm
      by_cases k5 : g_kd τ t = 5
      · refine step ((g_B τ root (g_sg τ t) t).getD 0 :: σ) (fun x => by unfold g_st; rw [if_neg k0, if_neg k2, if_neg k3, if_neg k4, if_pos k5]) (g_N_same (fun j => by rw [hce, if_neg k0, if_neg k2, if_neg k3, if_neg k4, if_pos k5]))
      by_cases k6 : g_kd τ t = 6
      · refine step (g_lf τ t :: σ) (fun x => by unfold g_st; rw [if_neg k0, if_neg k2, if_neg k3, if_neg k4, if_neg k5, if_pos k6]) (g_N_same (fun j => by rw [hce, if_neg k0, if_neg k2, if_neg k3, if_neg k4, if_neg k5, if_pos k6]))
      · rw [g_N_z (fun j => by rw [hce, if_neg k0, if_neg k2, if_neg k3, if_neg k4, if_neg k5, if_neg k6])]
        rw [g_sp_zero]
        intro x _
        unfold g_Nx
        rw [g_run_cons h hr hT x hσ]
        have e : g_st τ root S x t σ = (2, σ) := by unfold g_st; rw [if_neg k0, if_neg k2, if_neg k3, if_neg k4, if_neg k5, if_neg k6]
        rw [e]
        rfl
theorem g_N_le (h : g_WF n τ) (hr : root < n) (hT : g_TY τ root S) : ∀ m σ, (∀ u, u ∈ σ → u ∈ g_P τ root) → g_sep S σ → g_N τ root σ m ≤ 8 ^ m := by
  intro m
  induction m with
  | zero =>
    intro σ
    induction σ with
    | nil => intro _ _; exact Nat.le_refl _
    | cons t σ ih =>
      intro hσ hs
      show g_N τ root σ 0 * g_c τ root t 0 ≤ 1
      have a := ih (fun u hu => hσ u (by simp [hu])) hs.2.2
      rw [g_c0 h hr hT _ t (hσ t (by simp)) (Nat.le_refl _)]
      cases g_nu S t <;> simp
      simpa using a
  | succ m ih =>
    intro σ hσ hs
    rw [g_cons h hr hT _ σ hσ hs (Nat.le_refl _) m, Nat.pow_succ, Nat.mul_comm]
    apply g_sp_le
    intro x _
    unfold g_Nx
    split
    · have q := g_run_sep h hr hT x σ hσ hs
      exact ih _ q.2 q.1
    · exact Nat.zero_le _
theorem g_c_N (t m : Nat) : g_N τ root [t] m = g_c τ root t m := by
  show g_cv g_d0 (g_c τ root t) m = _
  rw [g_cv_d0]
theorem g_c_le (h : g_WF n τ) (hr : root < n) (hT : g_TY τ root S) {t : Nat} (ht : t ∈ g_P τ root) (m : Nat) : g_c τ root t m ≤ 8 ^ m := by
  rw [← g_c_N]
  exact g_N_le h hr hT m [t] (fun u hu => by rw [List.mem_singleton.mp hu]; exact ht) ⟨trivial, fun _ => trivial, trivial⟩
/-- what is nullable and doesn't begin with x is passed -/
theorem g_pass (h : g_WF n τ) (hr : root < n) (hT : g_TY τ root S) (x : Nat) : ∀ r t, t ∈ g_P τ root → g_rk τ root t ≤ r → g_nu S t = true → (g_fi S t).testBit x = false → ∀ σ, (∀ u, u ∈ σ → u ∈ g_P τ root) → g_run τ root S x (t :: σ) = g_run τ root S x σ := by
  intro r
  induction r using Nat.strongRecOn with
  | ind r ih =>
    intro t ht hk hnu hf σ hσ
    have cons : ∀ c, c ∈ g_P τ root → ∀ u, u ∈ c :: σ → u ∈ g_P τ root := fun c hc u hu => by
      rcases List.mem_cons.mp hu with rfl | hu
      · exact hc
      · exact hσ u hu
    rw [g_run_cons h hr hT x (cons t ht)]
    refine g_st_cases h hr hT x ht σ (P := fun q => (if q.1 = 0 then g_run τ root S x q.2 else q) = g_run τ root S x σ) ?_ ?_ ?_ ?_ ?_ ?_ ?_
    · intro _ _; rw [if_pos rfl]
    · intro e _; rw [show g_nu S t = false by show (S t).1 = false; rw [e]] at hnu; cases hnu
    · intro _ e; rw [show g_nu S t = false by show (S t).1 = false; rw [e]] at hnu; cases hnu
    · intro k3 _ _ _; rw [(g_F3 hT ht k3).1] at hnu; cases hnu
    · intro c k4 hc hcP hlt
      rw [if_pos rfl]
      obtain ⟨-, q2, -⟩ := g_cho_in hT ht k4 hc
      refine ih (g_rk τ root c) (by omega) c hcP (Nat.le_refl _) ((g_cho_first hT ht k4 hc).2 hf) ?_ σ hσ
      cases hb : (g_fi S c).testBit x with
      | false => rfl
      | true => rw [q2 x hb] at hf; cases hf
    · intro k4 hc
      obtain ⟨e1, e2, -⟩ := g_F4 hT ht k4
      rw [e1] at hnu
      unfold g_cho at hc
      revert hc hnu
      cases (g_fi S (g_lf τ t)).testBit x <;> cases (g_fi S (g_rt τ t)).testBit x <;> cases g_nu S (g_lf τ t) <;> cases g_nu S (g_rt τ t) <;> simp
    · intro c _ e hcP hlt
      rw [if_pos rfl]
      refine ih (g_rk τ root c) (by omega) c hcP (Nat.le_refl _) ?_ ?_ σ hσ
      · show (S c).1 = true; rw [← e]; exact hnu
      · show (S c).2.1.testBit x = false; rw [← e]; exact hf
end GN
/-- only the empty word -/
def g_tv (S : TS) (t : Nat) : Bool := g_nu S t && (g_fi S t == 0)
/-- no whole round a term has only the empty word -/
def g_ok (τ : Tb) (root : Nat) (S : TS) (t : Nat) : Bool := (g_P τ root).all (fun a => !((g_P τ a).contains t && (a != t) && g_tv S a))
def g_nt (τ : Tb) (root : Nat) (S : TS) (t : Nat) : Bool := g_ok τ root S t && !(g_tv S t)
def g_ls (f : Nat → Nat) : List Nat → Nat
  | [] => 0
  | a :: l => f a + g_ls f l
def g_sz (τ : Tb) (t : Nat) : Nat := (g_P τ t).length
def g_tz (τ : Tb) (S : TS) (t : Nat) : Nat := if g_tv S t then g_sz τ t else 0
def g_lc (τ : Tb) (S : TS) (t : Nat) : Nat := 1 + (if g_kd τ t = 3 ∨ g_kd τ t = 4 then g_tz τ S (g_lf τ t) + g_tz τ S (g_rt τ t) else 0)
def g_pr (τ : Tb) (t : Nat) : Nat := if g_kd τ t = 3 then 1 else 0
def g_Φ (τ : Tb) (S : TS) (σ : List Nat) : Nat := g_ls (g_tz τ S) σ
/-- u lies in c, and no pair between -/
def g_np (τ : Tb) (c u : Nat) : Prop := u ∈ g_P τ c ∧ ∀ a, a ∈ g_P τ c → u ∈ g_P τ a → a ≠ u → g_kd τ a ≠ 3
def g_el (τ : Tb) (root : Nat) (S : TS) (t : Nat) : Prop := g_ok τ root S t = true ∨ (g_tv S t = true ∧ ∃ c, c ∈ g_P τ root ∧ g_ok τ root S c = true ∧ g_tv S c = true ∧ g_np τ c t)
/-- u has been visited since the last letter; it won't be again -/
def g_vd (τ : Tb) (root : Nat) (S : TS) (u : Nat) : List Nat → Prop
  | [] => True
  | t :: σ => ((g_rk τ root t < g_rk τ root u ∧ (g_nu S t = true → g_nu S u = true)) ∨ (g_nu S u = true ∧ g_fi S u &&& g_fi S t = 0)) ∧ (g_nu S t = true → g_sepF S (g_fi S u) σ)
theorem g_ls_app (f : Nat → Nat) : ∀ l k, g_ls f (l ++ k) = g_ls f l + g_ls f k
  | [], k => by show g_ls f k = 0 + g_ls f k; omega
  | a :: l, k => by
    show f a + g_ls f (l ++ k) = f a + g_ls f l + g_ls f k
    rw [g_ls_app f l k]; omega
theorem g_ls_erase (f : Nat → Nat) {a : Nat} : ∀ {l : List Nat}, a ∈ l → g_ls f l = f a + g_ls f (l.erase a)
  | [], h => by cases h
  | b :: l, h => by
    by_cases e : b = a
    · subst e
      rw [List.erase_cons_head]
      rfl
    · rw [List.erase_cons_tail (by simpa using e)]
      have h2 : a ∈ l := by
        rcases List.mem_cons.mp h with q | q
        · exact absurd q.symm e
        · exact q
      show f b + g_ls f l = f a + (f b + g_ls f (l.erase a))
      rw [g_ls_erase f h2]
      omega
theorem g_ls_sub (f : Nat → Nat) : ∀ {l m : List Nat}, l.Nodup → (∀ u, u ∈ l → u ∈ m) → g_ls f l ≤ g_ls f m
  | [], _, _, _ => Nat.zero_le _
  | a :: l, m, hn, hs => by
    rw [List.nodup_cons] at hn
    rw [g_ls_erase f (hs a (by simp))]
    have := g_ls_sub f (l := l) (m := m.erase a) hn.2 (fun u hu => (List.mem_erase_of_ne (fun e => hn.1 (by rw [← e]; exact hu))).mpr (hs u (by simp [hu])))
    show f a + g_ls f l ≤ _
    omega
theorem g_ls_congr {f g : Nat → Nat} : ∀ {l : List Nat}, (∀ u, u ∈ l → f u = g u) → g_ls f l = g_ls g l
  | [], _ => rfl
  | a :: l, h => by
    show f a + g_ls f l = g a + g_ls g l
    rw [h a (by simp), g_ls_congr (fun u hu => h u (by simp [hu]))]
theorem g_ls_zero {f : Nat → Nat} : ∀ {l : List Nat}, (∀ u, u ∈ l → f u = 0) → g_ls f l = 0
  | [], _ => rfl
  | a :: l, h => by
    show f a + g_ls f l = 0
    rw [h a (by simp), g_ls_zero (fun u hu => h u (by simp [hu]))]
section GX
variable {n : Nat} {τ : Tb} {root : Nat} {S : TS}
theorem g_tv_iff {t : Nat} : g_tv S t = true ↔ g_nu S t = true ∧ g_fi S t = 0 := by
  unfold g_tv
  rw [Bool.and_eq_true, beq_iff_eq]
theorem g_ok_iff {t : Nat} : g_ok τ root S t = true ↔ ∀ a, a ∈ g_P τ root → t ∈ g_P τ a → a ≠ t → g_tv S a = false := by
  unfold g_ok
  rw [List.all_eq_true]
  refine ⟨fun h a ha hta hne => ?_, fun h a ha => ?_⟩
  · have := h a ha
    rw [List.contains_iff_mem.mpr hta] at this
    have e : (a != t) = true := by simpa using hne
    rw [e] at this
    simpa using this
  · by_cases hta : t ∈ g_P τ a
    · by_cases hne : a = t
      · simp [hne]
      · rw [h a ha hta hne]; simp
    · have : (g_P τ a).contains t = false := by
        rw [← Bool.not_eq_true, List.contains_iff_mem]
        exact hta
      rw [this]; simp
theorem g_sz_eq (h : g_WF n τ) {t : Nat} (ht : t < n) : g_sz τ t = if g_kd τ t = 6 then g_sz τ (g_lf τ t) + 1 else if g_kd τ t = 3 ∨ g_kd τ t = 4 then g_sz τ (g_lf τ t) + g_sz τ (g_rt τ t) + 1 else 1 := by
  unfold g_sz
  rw [g_P_eq h ht]
  unfold g_ch
  split
  · simp
  · split
    · simp; omega
    · simp
theorem g_ls_P (h : g_WF n τ) (f : Nat → Nat) {t : Nat} (ht : t < n) : g_ls f (g_P τ t) = if g_kd τ t = 6 then g_ls f (g_P τ (g_lf τ t)) + f t else if g_kd τ t = 3 ∨ g_kd τ t = 4 then g_ls f (g_P τ (g_lf τ t)) + g_ls f (g_P τ (g_rt τ t)) + f t else f t := by
  rw [g_P_eq h ht, g_ls_app]
  have e : g_ls f [t] = f t := by show f t + 0 = f t; omega
  rw [e]
  unfold g_ch
  split
  · simp
  · split
    · simp [g_ls_app]
    · simp [g_ls]
/-- what may be charged to the terms of a term: no more than they are -/
theorem g_charge (h : g_WF n τ) (hr : root < n) : ∀ t, t ∈ g_P τ root → g_ls (fun u => if g_nt τ root S u then g_lc τ S u else 0) (g_P τ t) ≤ (if g_tv S t then 0 else g_sz τ t) := by
  intro t
  induction t using Nat.strongRecOn with
  | ind t ih =>
    intro ht
    have htn := g_P_lt h hr ht
    by_cases hv : g_tv S t = true
    · rw [if_pos hv, g_ls_zero]
      · exact Nat.le_refl _
      · intro u hu
        rw [if_neg]
        intro hnt
        unfold g_nt at hnt
        rw [Bool.and_eq_true] at hnt
        by_cases e : t = u
        · subst e; rw [hv] at hnt; exact absurd hnt.2 (by decide)
        · have := g_ok_iff.mp hnt.1 t ht hu e
          rw [hv] at this
          cases this
    · rw [if_neg hv, g_ls_P h _ htn, g_sz_eq h htn]
      have lc1 : (if g_nt τ root S t then g_lc τ S t else 0) ≤ g_lc τ S t := by split <;> omega
      by_cases k6 : g_kd τ t = 6
      · rw [if_pos k6, if_pos k6]
        have a := g_lfP h hr ht (by omega)
        have q := ih _ a.2.1 a.1
        have e : g_lc τ S t = 1 := by unfold g_lc; rw [if_neg (by omega)]
        split at q <;> omega
      rw [if_neg k6, if_neg k6]
      by_cases k4 : g_kd τ t = 3 ∨ g_kd τ t = 4
      · rw [if_pos k4, if_pos k4]
        have a := g_lfP h hr ht (by omega)
        have b := g_rtP h hr ht k4
        have q := ih _ a.2.1 a.1
        have q2 := ih _ b.2.1 b.1
        have e : g_lc τ S t = 1 + (g_tz τ S (g_lf τ t) + g_tz τ S (g_rt τ t)) := by unfold g_lc; rw [if_pos k4]
        unfold g_tz at e
        revert q q2 e
        cases g_tv S (g_lf τ t) <;> cases g_tv S (g_rt τ t) <;> simp <;> intros <;> omega
      · rw [if_neg k4, if_neg k4]
        have e : g_lc τ S t = 1 := by unfold g_lc; rw [if_neg k4]
        omega
theorem g_pairs (h : g_WF n τ) (hr : root < n) : ∀ t, t ∈ g_P τ root → 2 * g_ls (g_pr τ) (g_P τ t) + 1 ≤ g_sz τ t := by
  intro t
  induction t using Nat.strongRecOn with
  | ind t ih =>
    intro ht
    have htn := g_P_lt h hr ht
    rw [g_ls_P h _ htn, g_sz_eq h htn]
    unfold g_pr at *
    by_cases k6 : g_kd τ t = 6
    · rw [if_pos k6, if_pos k6, if_neg (by omega)]
      have a := g_lfP h hr ht (by omega)
      have q := ih _ a.2.1 a.1
      omega
    rw [if_neg k6, if_neg k6]
    by_cases k4 : g_kd τ t = 3 ∨ g_kd τ t = 4
    · rw [if_pos k4, if_pos k4]
      have a := g_lfP h hr ht (by omega)
      have b := g_rtP h hr ht k4
      have q := ih _ a.2.1 a.1
      have q2 := ih _ b.2.1 b.1
      split <;> omega
    · rw [if_neg k4, if_neg k4, if_neg (by omega)]
      omega
theorem g_L_bounds (h : g_WF n τ) (hr : root < n) {L : List Nat} (h1 : L.Nodup) (h2 : ∀ u, u ∈ L → u ∈ g_P τ root ∧ g_nt τ root S u = true) : g_ls (g_lc τ S) L ≤ 48 ∧ g_ls (g_pr τ) L ≤ 23 := by
  have hroot := g_P_self h hr
  have a := g_charge (S := S) h hr root hroot
  have b := g_pairs h hr root hroot
  have c := g_P_len h hr
  have e : g_ls (g_lc τ S) L = g_ls (fun u => if g_nt τ root S u then g_lc τ S u else 0) L := g_ls_congr (fun u hu => by rw [if_pos (h2 u hu).2])
  have d := g_ls_sub (fun u => if g_nt τ root S u then g_lc τ S u else 0) h1 (fun u hu => (h2 u hu).1)
  have f := g_ls_sub (g_pr τ) h1 (fun u hu => (h2 u hu).1)
  unfold g_sz at a b
  refine ⟨?_, by omega⟩
  rw [e]
  split at a <;> omega
theorem g_ok_child (h : g_WF n τ) (hr : root < n) {t c : Nat} (ht : t ∈ g_P τ root) (ho : g_ok τ root S t = true) (hv : g_tv S t = false) (hc : c ∈ g_ch τ t) : g_ok τ root S c = true := by
  rw [g_ok_iff] at ho ⊢
  intro a ha hca hne
  have hw := ((h.2 t (g_P_lt h hr ht)).2.2.2.1 c hc).2.2
  have := (g_P_up h a (g_P_lt h hr ha) c hca (fun z => hne z.symm)).2
  rw [hw] at this
  by_cases e : a = t
  · rw [e]; exact hv
  · exact ho a ha this e
theorem g_ok_up (h : g_WF n τ) (hr : root < n) {t k : Nat} (ho : g_ok τ root S t = true) (hk : k ∈ g_P τ root) (htk : t ∈ g_P τ k) (hlt : t < k) : g_ok τ root S k = true := by
  rw [g_ok_iff] at ho ⊢
  intro a ha hka hne
  have := g_P_le h a (g_P_lt h hr ha) k hka
  exact ho a ha (g_P_trans h (g_P_lt h hr ha) hka htk) (by omega)
/-- from a term whose way up to c has no pair, a guarded variable is bound above c -/
theorem g_np_bind (h : g_WF n τ) (hr : root < n) {c u v k : Nat} (hc : c ∈ g_P τ root) (hnp : g_np τ c u) : ∀ m w, w ∈ g_P τ c → u ∈ g_P τ w → c - w ≤ m → g_B τ root v w = some k → g_G τ root v w = true → g_B τ root v c = some k := by
  have hcn := g_P_lt h hr hc
  intro m
  induction m with
  | zero =>
    intro w hw huw hm hb _
    have := g_P_le h c hcn w hw
    rw [show c = w by omega]
    exact hb
  | succ m ih =>
    intro w hw huw hm hb hg
    by_cases e : w = c
    · rw [← e]; exact hb
    · have hwr : w ∈ g_P τ root := g_P_trans h hr hc hw
      obtain ⟨-, q2⟩ := g_P_up h c hcn w hw e
      have hlt := (g_up h hr hwr (fun z => by
        have := g_P_le h root hr c hc
        have := g_P_le h c hcn w hw
        omega)).1
      have hua : u ∈ g_P τ (g_wh τ w) := by
        have hx := g_up h hr hwr (fun z => by
          have := g_P_le h root hr c hc
          have := g_P_le h c hcn w hw
          omega)
        exact g_P_child h hx.2.1 hx.2.2.2.1 huw
      have hne : g_kd τ (g_wh τ w) ≠ 3 := hnp.2 _ q2 hua (by have := g_P_le h w (g_P_lt h hr hwr) u huw; omega)
      obtain ⟨-, -, -, p1, p2⟩ := g_step h hr hwr hb hg (fun z => hne z.1)
      exact ih (g_wh τ w) q2 hua (by omega) p1 p2
/-- what has only the empty word is no variable, if it may be read -/
theorem g_el_novar (h : g_WF n τ) (hr : root < n) (hT : g_TY τ root S) {t : Nat} (ht : t ∈ g_P τ root) (he : g_el τ root S t) (hv : g_tv S t = true) : g_kd τ t ≠ 5 := by
  intro k5
  obtain ⟨c, hc, hoc, hvc, hnp⟩ : ∃ c, c ∈ g_P τ root ∧ g_ok τ root S c = true ∧ g_tv S c = true ∧ g_np τ c t := by
    rcases he with he | ⟨-, he⟩
    · refine ⟨t, ht, he, hv, g_P_self h (g_P_lt h hr ht), fun a ha hta hne => ?_⟩
      have := g_P_le h t (g_P_lt h hr ht) a ha
      have := g_P_le h a (g_P_lt h hr (g_P_trans h hr ht ha)) t hta
      omega
    · exact he
  obtain ⟨k, h1, h2⟩ := (hT.2.2 t ht).1 k5
  obtain ⟨k', h1', h3⟩ := g_F5 hT ht k5
  rw [h1] at h1'
  cases h1'
  have q := g_np_bind h hr hc hnp _ t hnp.1 (g_P_self h (g_P_lt h hr ht)) (Nat.le_refl _) h1 h2
  have p := g_B_some h hr _ _ hc (Nat.le_refl _) q
  have := g_ok_iff.mp hoc k p.2.2.2.1 p.2.2.2.2 (by omega)
  have e : g_tv S k = g_tv S t := by unfold g_tv; show ((S k).1 && ((S k).2.1 == 0)) = ((S t).1 && ((S t).2.1 == 0)); rw [h3]
  rw [e, hv] at this
  cases this
/-- a visit: what may be read stays so; the charges -/
theorem g_el_st (h : g_WF n τ) (hr : root < n) (hT : g_TY τ root S) (x : Nat) {t : Nat} (ht : t ∈ g_P τ root) {σ : List Nat} (he : g_el τ root S t) (hσ : ∀ u, u ∈ σ → g_el τ root S u) (h0 : (g_st τ root S x t σ).1 = 0) :
    (∀ u, u ∈ (g_st τ root S x t σ).2 → g_el τ root S u) ∧
    (g_tv S t = true → 1 + g_Φ τ S (g_st τ root S x t σ).2 ≤ g_Φ τ S (t :: σ) ∧ (g_st τ root S x t σ).2.length ≤ (t :: σ).length) ∧
    (g_tv S t = false → g_nt τ root S t = true ∧ 1 + g_Φ τ S (g_st τ root S x t σ).2 ≤ g_Φ τ S (t :: σ) + g_lc τ S t ∧ (g_st τ root S x t σ).2.length ≤ (t :: σ).length + g_pr τ t) := by
  have hnovar := g_el_novar h hr hT ht he
  have htn := g_P_lt h hr ht
  have okt : g_tv S t = false → g_ok τ root S t = true := fun z => by
    rcases he with he | ⟨he, -⟩
    · exact he
    · rw [z] at he; cases he
  have cons : ∀ c, g_el τ root S c → ∀ u, u ∈ c :: σ → g_el τ root S u := fun c hc u hu => by
    rcases List.mem_cons.mp hu with rfl | hu
    · exact hc
    · exact hσ u hu
  have hΦ : ∀ c, g_Φ τ S (c :: σ) = g_tz τ S c + g_Φ τ S σ := fun c => rfl
  have ntt : g_tv S t = false → g_nt τ root S t = true := fun z => by unfold g_nt; rw [okt z, z]; rfl
  have tzt : g_tv S t = true → g_tz τ S t = g_sz τ t := fun z => by unfold g_tz; rw [if_pos z]
  have tzf : ∀ c, g_tv S c = false → g_tz τ S c = 0 := fun c z => by unfold g_tz; rw [z]; rfl
  have tzle : ∀ c, g_tz τ S c ≤ g_sz τ c := fun c => by unfold g_tz; split <;> omega
  -- a part of a term that has only the empty word
  have elc : ∀ c, c ∈ g_ch τ t → g_tv S t = true → g_kd τ t ≠ 3 → g_tv S c = true → g_el τ root S c := by
    intro c hc hv hk3 hvc
    obtain ⟨d, hd, hod, hvd, hnp⟩ : ∃ d, d ∈ g_P τ root ∧ g_ok τ root S d = true ∧ g_tv S d = true ∧ g_np τ d t := by
      rcases he with he | ⟨-, he⟩
      · refine ⟨t, ht, he, hv, g_P_self h htn, fun a ha hta hne => ?_⟩
        have := g_P_le h t htn a ha
        have := g_P_le h a (g_P_lt h hr (g_P_trans h hr ht ha)) t hta
        omega
      · exact he
    refine Or.inr ⟨hvc, d, hd, hod, hvd, g_P_down h t (g_P_lt h hr hd) hnp.1 hc, fun a ha hca hne => ?_⟩
    have hw := ((h.2 t htn).2.2.2.1 c hc).2.2
    have hta := (g_P_up h a (g_P_lt h hr (g_P_trans h hr hd ha)) c hca (fun z => hne z.symm)).2
    rw [hw] at hta
    by_cases e : a = t
    · rw [e]; exact hk3
    · exact hnp.2 a ha hta e
  revert h0
  refine g_st_cases h hr hT x ht σ (P := fun q => q.1 = 0 → (∀ u, u ∈ q.2 → g_el τ root S u) ∧ (g_tv S t = true → 1 + g_Φ τ S q.2 ≤ g_Φ τ S (t :: σ) ∧ q.2.length ≤ (t :: σ).length) ∧ (g_tv S t = false → g_nt τ root S t = true ∧ 1 + g_Φ τ S q.2 ≤ g_Φ τ S (t :: σ) + g_lc τ S t ∧ q.2.length ≤ (t :: σ).length + g_pr τ t)) ?_ ?_ ?_ ?_ ?_ ?_ ?_
  · intro k0 e _
    have hv : g_tv S t = true := g_tv_iff.mpr ⟨by show (S t).1 = true; rw [e], by show (S t).2.1 = 0; rw [e]⟩
    refine ⟨hσ, fun _ => ⟨?_, by simp⟩, fun z => by rw [hv] at z; cases z⟩
    have := g_P_pos h htn
    rw [hΦ, tzt hv]
    show 1 + g_Φ τ S σ ≤ (g_P τ t).length + g_Φ τ S σ
    omega
  · intro _ _ z; cases z
  · intro _ _ z
    revert z
    show (if g_sg τ t = x then 1 else 2) = 0 → _
    split <;> intro z <;> cases z
  · intro k3 hl hrr _ _
    have hv : g_tv S t = false := by
      rw [← Bool.not_eq_true, g_tv_iff, (g_F3 hT ht k3).1]
      rintro ⟨z, -⟩; cases z
    have hvl : g_tv S (g_lf τ t) = false := by
      rw [← Bool.not_eq_true, g_tv_iff, ((hT.2.2 t ht).2.1 k3).1]
      rintro ⟨z, -⟩; cases z
    have a := g_lfP h hr ht (by omega)
    have b := g_rtP h hr ht (by omega)
    refine ⟨?_, fun z => (by rw [hv] at z; cases z), fun _ => ⟨ntt hv, ?_, ?_⟩⟩
    · intro u hu
      rcases List.mem_cons.mp hu with rfl | hu
      · exact Or.inl (g_ok_child h hr ht (okt hv) hv a.2.2.2)
      · exact cons _ (Or.inl (g_ok_child h hr ht (okt hv) hv b.2.2.2)) u hu
    · show 1 + (g_tz τ S (g_lf τ t) + (g_tz τ S (g_rt τ t) + g_Φ τ S σ)) ≤ g_tz τ S t + g_Φ τ S σ + g_lc τ S t
      unfold g_lc
      rw [if_pos (Or.inl k3)]
      omega
    · unfold g_pr; rw [if_pos k3]; simp
  · intro c k4 hc hcP _ _
    have hcc : c ∈ g_ch τ t := by
      rcases hc with ⟨rfl, -⟩ | ⟨rfl, -⟩
      · exact (g_lfP h hr ht (by omega)).2.2.2
      · exact (g_rtP h hr ht (by omega)).2.2.2
    have hle : g_tz τ S c ≤ g_tz τ S (g_lf τ t) + g_tz τ S (g_rt τ t) := by rcases hc with ⟨rfl, -⟩ | ⟨rfl, -⟩ <;> omega
    refine ⟨?_, fun hv => ⟨?_, by simp⟩, fun hv => ⟨ntt hv, ?_, by simp⟩⟩
    · cases hv : g_tv S t with
      | false => exact cons c (Or.inl (g_ok_child h hr ht (okt hv) hv hcc))
      | true =>
        obtain ⟨v1, v2⟩ := g_tv_iff.mp hv
        obtain ⟨-, q2, -⟩ := g_cho_in hT ht k4 hc
        refine cons c (elc c hcc hv (by omega) (g_tv_iff.mpr ⟨(g_cho_first hT ht k4 hc).2 (by rw [v2]; simp), ?_⟩))
        apply Nat.eq_of_testBit_eq
        intro y
        cases hb : (g_fi S c).testBit y with
        | false => simp
        | true => have := q2 y hb; rw [v2] at this; simp at this
    · rw [hΦ, hΦ, tzt hv, g_sz_eq h htn, if_neg (by omega), if_pos (Or.inr k4)]
      have := tzle (g_lf τ t)
      have := tzle (g_rt τ t)
      have := tzle c
      rcases hc with ⟨rfl, -⟩ | ⟨rfl, -⟩ <;> omega
    · rw [hΦ, hΦ]
      unfold g_lc
      rw [if_pos (Or.inr k4)]
      omega
  · intro _ _ z; cases z
  · intro c hc e hcP _ _
    have ev : g_tv S c = g_tv S t := by unfold g_tv; show ((S c).1 && ((S c).2.1 == 0)) = ((S t).1 && ((S t).2.1 == 0)); rw [e]
    rcases hc with ⟨k5, hb⟩ | ⟨k6, hc⟩
    · have hv : g_tv S t = false := by
        rw [← Bool.not_eq_true]
        intro z
        exact hnovar z k5
      have p := g_B_some h hr _ _ ht (Nat.le_refl _) hb
      refine ⟨cons c (Or.inl (g_ok_up h hr (okt hv) p.2.2.2.1 p.2.2.2.2 p.1)), fun z => (by rw [hv] at z; cases z), fun _ => ⟨ntt hv, ?_, by simp⟩⟩
      rw [hΦ, hΦ, tzf c (by rw [ev]; exact hv)]
      unfold g_lc
      omega
    · have a := g_lfP h hr ht (by omega)
      subst hc
      refine ⟨?_, fun hv => ⟨?_, by simp⟩, fun hv => ⟨ntt hv, ?_, by simp⟩⟩
      · cases hv : g_tv S t with
        | false => exact cons _ (Or.inl (g_ok_child h hr ht (okt hv) hv a.2.2.2))
        | true => exact cons _ (elc _ a.2.2.2 hv (by omega) (by rw [ev]; exact hv))
      · rw [hΦ, hΦ, tzt hv, g_sz_eq h htn, if_pos k6]
        have := tzle (g_lf τ t)
        omega
      · rw [hΦ, hΦ, tzf _ (by rw [ev]; exact hv)]
        unfold g_lc
        omega
/-- what has been visited stays so -/
theorem g_vd_st (h : g_WF n τ) (hr : root < n) (hT : g_TY τ root S) (x : Nat) {t u : Nat} (ht : t ∈ g_P τ root) {σ : List Nat} (hu : g_vd τ root S u (t :: σ)) (h0 : (g_st τ root S x t σ).1 = 0) : g_vd τ root S u (g_st τ root S x t σ).2 := by
  obtain ⟨h1, h2⟩ := hu
  revert h0
  refine g_st_cases h hr hT x ht σ (P := fun q => q.1 = 0 → g_vd τ root S u q.2) ?_ ?_ ?_ ?_ ?_ ?_ ?_
  · intro _ e _
    have hn : g_nu S t = true := by show (S t).1 = true; rw [e]
    have hnu : g_nu S u = true := by
      rcases h1 with ⟨-, h1⟩ | ⟨h1, -⟩
      · exact h1 hn
      · exact h1
    have h3 := h2 hn
    cases σ with
    | nil => trivial
    | cons b σ => exact ⟨Or.inr ⟨hnu, h3.1⟩, h3.2⟩
  · intro _ _ z; cases z
  · intro _ _ z
    revert z
    show (if g_sg τ t = x then 1 else 2) = 0 → _
    split <;> intro z <;> cases z
  · intro k3 hl hrr hlt _
    have n1 := ((hT.2.2 t ht).2.1 k3).1
    refine ⟨?_, fun z => by rw [n1] at z; cases z⟩
    rcases h1 with ⟨h1, -⟩ | ⟨h1, h4⟩
    · exact Or.inl ⟨by omega, fun z => by rw [n1] at z; cases z⟩
    · exact Or.inr ⟨h1, by rw [← (g_F3 hT ht k3).2.1]; exact h4⟩
  · intro c k4 hc hcP hlt _
    obtain ⟨q1, q2, -⟩ := g_cho_in hT ht k4 hc
    refine ⟨?_, fun z => h2 (q1 z)⟩
    rcases h1 with ⟨h1, h3⟩ | ⟨h1, h4⟩
    · exact Or.inl ⟨by omega, fun z => h3 (q1 z)⟩
    · refine Or.inr ⟨h1, ?_⟩
      rw [Nat.and_comm] at h4 ⊢
      exact g_sub_and h4 q2
  · intro _ _ z; cases z
  · intro c _ e hcP hlt _
    have e2 : g_fi S c = g_fi S t := by show (S c).2.1 = (S t).2.1; rw [e]
    have e3 : g_nu S c = g_nu S t := by show (S c).1 = (S t).1; rw [e]
    refine ⟨?_, by rw [e3]; exact h2⟩
    rw [e2, e3]
    rcases h1 with ⟨h1, h3⟩ | h1
    · exact Or.inl ⟨by omega, h3⟩
    · exact Or.inr h1
theorem g_vd_self (h : g_WF n τ) (hr : root < n) (hT : g_TY τ root S) (x : Nat) {t : Nat} (ht : t ∈ g_P τ root) {σ : List Nat} (hs : g_sep S (t :: σ)) (hv : g_tv S t = false) (h0 : (g_st τ root S x t σ).1 = 0) : g_vd τ root S t (g_st τ root S x t σ).2 := by
  obtain ⟨-, s2, -⟩ := hs
  revert h0
  refine g_st_cases h hr hT x ht σ (P := fun q => q.1 = 0 → g_vd τ root S t q.2) ?_ ?_ ?_ ?_ ?_ ?_ ?_
  · intro _ e _
    have : g_tv S t = true := g_tv_iff.mpr ⟨by show (S t).1 = true; rw [e], by show (S t).2.1 = 0; rw [e]⟩
    rw [this] at hv; cases hv
  · intro _ _ z; cases z
  · intro _ _ z
    revert z
    show (if g_sg τ t = x then 1 else 2) = 0 → _
    split <;> intro z <;> cases z
  · intro k3 hl hrr hlt _
    have n1 := ((hT.2.2 t ht).2.1 k3).1
    exact ⟨Or.inl ⟨hlt, fun z => by rw [n1] at z; cases z⟩, fun z => by rw [n1] at z; cases z⟩
  · intro c k4 hc hcP hlt _
    obtain ⟨q1, q2, -⟩ := g_cho_in hT ht k4 hc
    exact ⟨Or.inl ⟨hlt, q1⟩, fun z => s2 (q1 z)⟩
  · intro _ _ z; cases z
  · intro c _ e hcP hlt _
    have e3 : g_nu S c = g_nu S t := by show (S c).1 = (S t).1; rw [e]
    refine ⟨Or.inl ⟨hlt, by rw [e3]; exact id⟩, by rw [e3]; exact s2⟩
/-- the state of a reading behind g letters, after v visits: it stays within its bounds -/
def g_I (τ : Tb) (root : Nat) (S : TS) (σ : List Nat) (g v : Nat) : Prop :=
  (∀ u, u ∈ σ → u ∈ g_P τ root) ∧ g_sep S σ ∧ (∀ u, u ∈ σ → g_el τ root S u) ∧ ∃ L : List Nat, L.Nodup ∧ (∀ u, u ∈ L → u ∈ g_P τ root ∧ g_nt τ root S u = true) ∧ (∀ u, u ∈ L → g_vd τ root S u σ) ∧ v + g_Φ τ S σ ≤ 48 * (g + 1) + g_ls (g_lc τ S) L ∧ σ.length ≤ 1 + 23 * g + g_ls (g_pr τ) L
theorem g_I_start (h : g_WF n τ) (hr : root < n) : g_I τ root S [root] 0 0 := by
  have hp := g_P_self h hr
  have mem : ∀ u, u ∈ [root] → u = root := fun u hu => List.mem_singleton.mp hu
  refine ⟨fun u hu => by rw [mem u hu]; exact hp, ⟨trivial, fun _ => trivial, trivial⟩, fun u hu => ?_, [], List.nodup_nil, fun u hu => (by cases hu), fun u hu => (by cases hu), ?_, by simp [g_ls]⟩
  · rw [mem u hu]
    refine Or.inl (g_ok_iff.mpr (fun a ha hta hne => ?_))
    have := g_P_le h root hr a ha
    have := g_P_le h a (g_P_lt h hr ha) root hta
    omega
  · have := g_P_len h hr
    show 0 + (g_tz τ S root + 0) ≤ 48 * (0 + 1) + 0
    unfold g_tz g_sz
    split <;> omega
theorem g_I_new (h : g_WF n τ) (hr : root < n) {t : Nat} {σ : List Nat} {L : List Nat} (h1 : L.Nodup) (h3 : ∀ u, u ∈ L → g_vd τ root S u (t :: σ)) (hv : g_tv S t = false) : (t :: L).Nodup := by
  rw [List.nodup_cons]
  refine ⟨fun hm => ?_, h1⟩
  obtain ⟨q, -⟩ := h3 t hm
  rcases q with ⟨q, -⟩ | ⟨q1, q2⟩
  · omega
  · rw [Nat.and_self] at q2
    rw [g_tv_iff.mpr ⟨q1, q2⟩] at hv
    cases hv
/-- a visit that goes on -/
theorem g_I_st (h : g_WF n τ) (hr : root < n) (hT : g_TY τ root S) (x : Nat) {t : Nat} {σ : List Nat} {g v : Nat} (hI : g_I τ root S (t :: σ) g v) (h0 : (g_st τ root S x t σ).1 = 0) : g_I τ root S (g_st τ root S x t σ).2 g (v + 1) := by
  obtain ⟨i1, i2, i3, L, l1, l2, l3, l4, l5⟩ := hI
  have ht := i1 t (by simp)
  have q := g_sep_st h hr hT x ht (fun u hu => i1 u (by simp [hu])) i2
  have p := g_el_st h hr hT x ht (i3 t (by simp)) (fun u hu => i3 u (by simp [hu])) h0
  refine ⟨q.2, q.1, p.1, ?_⟩
  cases hv : g_tv S t with
  | true =>
    have p2 := p.2.1 hv
    exact ⟨L, l1, l2, fun u hu => g_vd_st h hr hT x ht (l3 u hu) h0, by omega, by omega⟩
  | false =>
    have p2 := p.2.2 hv
    refine ⟨t :: L, g_I_new h hr l1 l3 hv, ?_, ?_, ?_, ?_⟩
    · intro u hu
      rcases List.mem_cons.mp hu with rfl | hu
      · exact ⟨ht, p2.1⟩
      · exact l2 u hu
    · intro u hu
      rcases List.mem_cons.mp hu with rfl | hu
      · exact g_vd_self h hr hT x ht i2 hv h0
      · exact g_vd_st h hr hT x ht (l3 u hu) h0
    · show v + 1 + g_Φ τ S _ ≤ 48 * (g + 1) + (g_lc τ S t + g_ls (g_lc τ S) L)
      omega
    · show _ ≤ 1 + 23 * g + (g_pr τ t + g_ls (g_pr τ) L)
      omega
/-- a visit that reads a letter -/
theorem g_I_let (h : g_WF n τ) (hr : root < n) (hT : g_TY τ root S) (x : Nat) {t : Nat} {σ : List Nat} {g v : Nat} (hI : g_I τ root S (t :: σ) g v) (h1 : (g_st τ root S x t σ).1 = 1) : g_I τ root S (g_st τ root S x t σ).2 (g + 1) (v + 1) := by
  obtain ⟨i1, i2, i3, L, l1, l2, l3, l4, l5⟩ := hI
  have ht := i1 t (by simp)
  have q := g_sep_st h hr hT x ht (fun u hu => i1 u (by simp [hu])) i2
  have e : (g_st τ root S x t σ).2 = σ ∧ g_nu S t = false := by
    revert h1
    refine g_st_cases h hr hT x ht σ (P := fun q => q.1 = 1 → q.2 = σ ∧ g_nu S t = false) ?_ ?_ ?_ ?_ ?_ ?_ ?_
    · intro _ _ z; cases z
    · intro _ _ z; cases z
    · intro _ e _; exact ⟨rfl, by show (S t).1 = false; rw [e]⟩
    · intro _ _ _ _ z; cases z
    · intro _ _ _ _ _ z; cases z
    · intro _ _ z; cases z
    · intro _ _ _ _ _ z; cases z
  have hv : g_tv S t = false := by
    rw [← Bool.not_eq_true, g_tv_iff, e.2]
    rintro ⟨z, -⟩; cases z
  have hnt : g_nt τ root S t = true := by
    unfold g_nt
    rcases i3 t (by simp) with z | ⟨z, -⟩
    · rw [z, hv]; rfl
    · rw [hv] at z; cases z
  have nd := g_I_new h hr l1 l3 hv
  have bd := g_L_bounds (S := S) h hr nd (fun u hu => by
    rcases List.mem_cons.mp hu with rfl | hu
    · exact ⟨ht, hnt⟩
    · exact l2 u hu)
  have b1 : g_lc τ S t + g_ls (g_lc τ S) L ≤ 48 := bd.1
  have b2 : g_pr τ t + g_ls (g_pr τ) L ≤ 23 := bd.2
  have hlc : 1 ≤ g_lc τ S t := by unfold g_lc; omega
  have hΦ : g_Φ τ S (t :: σ) = g_tz τ S t + g_Φ τ S σ := rfl
  have hlen : (t :: σ).length = σ.length + 1 := rfl
  refine ⟨q.2, q.1, ?_, [], List.nodup_nil, fun u hu => (by cases hu), fun u hu => (by cases hu), ?_, ?_⟩
  · rw [e.1]
    exact fun u hu => i3 u (by simp [hu])
  · rw [e.1]
    show v + 1 + g_Φ τ S σ ≤ 48 * (g + 1 + 1) + 0
    omega
  · rw [e.1]
    show σ.length ≤ 1 + 23 * (g + 1) + 0
    omega
theorem g_I_le (h : g_WF n τ) (hr : root < n) {σ : List Nat} {g v : Nat} (hI : g_I τ root S σ g v) : v ≤ 48 * g + 96 ∧ σ.length ≤ 24 + 23 * g := by
  obtain ⟨-, -, -, L, l1, l2, -, l4, l5⟩ := hI
  have bd := g_L_bounds (S := S) h hr l1 l2
  omega
/-- the way down to a letter -/
theorem g_path (h : g_WF n τ) (hr : root < n) (hT : g_TY τ root S) (x : Nat) : ∀ r t, t ∈ g_P τ root → g_rk τ root t ≤ r → (g_fi S t).testBit x = true → ∀ σ, (∀ u, u ∈ σ → u ∈ g_P τ root) → g_run τ root S x (t :: σ) = (1, (g_pth τ root S x (r + 1) t).reverse ++ σ) := by
  intro r
  induction r using Nat.strongRecOn with
  | ind r ih =>
    intro t ht hk hf σ hσ
    have cons : ∀ c, c ∈ g_P τ root → ∀ u, u ∈ c :: σ → u ∈ g_P τ root := fun c hc u hu => by
      rcases List.mem_cons.mp hu with rfl | hu
      · exact hc
      · exact hσ u hu
    have step : ∀ c, c ∈ g_P τ root → g_rk τ root c < g_rk τ root t → (g_fi S c).testBit x = true → ∀ σ', (∀ u, u ∈ σ' → u ∈ g_P τ root) → g_run τ root S x (c :: σ') = (1, (g_pth τ root S x r c).reverse ++ σ') := by
      intro c hc hlt hfc σ' hσ'
      obtain ⟨r', rfl⟩ : ∃ j, r = j + 1 := ⟨r - 1, by omega⟩
      exact ih r' (by omega) c hc (by omega) hfc σ' hσ'
    rw [g_run_cons h hr hT x (cons t ht)]
    unfold g_pth
    refine g_st_cases h hr hT x ht σ (P := fun q => (if q.1 = 0 then g_run τ root S x q.2 else q) = _) ?_ ?_ ?_ ?_ ?_ ?_ ?_
    · intro _ e; rw [show g_fi S t = 0 by show (S t).2.1 = 0; rw [e]] at hf; simp at hf
    · intro e _; rw [show g_fi S t = 0 by show (S t).2.1 = 0; rw [e]] at hf; simp at hf
    · intro k2 e
      rw [show g_fi S t = 2 ^ g_sg τ t by show (S t).2.1 = _; rw [e], Nat.testBit_two_pow] at hf
      have : g_sg τ t = x := by simpa using hf
      rw [if_pos this, if_neg (show ¬ ((1, σ) : Nat × List Nat).1 = 0 from Nat.one_ne_zero), if_neg (by omega), if_neg (by omega), if_neg (by omega), if_neg (by omega)]
      rfl
    · intro k3 hl hrr hlt
      rw [if_pos rfl, if_pos k3, step _ hl hlt (by rw [← (g_F3 hT ht k3).2.1]; exact hf) _ (cons _ hrr)]
      simp
    · intro c k4 hc hcP hlt
      have hfc := (g_cho_first hT ht k4 hc).1 hf
      rw [if_pos rfl, step c hcP hlt hfc σ hσ, if_neg (by omega), if_pos k4]
      rcases hc with ⟨rfl, hc⟩ | ⟨rfl, hc⟩
      · rw [if_neg (by omega)]
      · rw [if_pos hc]
    · intro k4 hc
      obtain ⟨e1, e2, -⟩ := g_F4 hT ht k4
      rw [e2, Nat.testBit_or] at hf
      unfold g_cho at hc
      revert hc hf
      cases (g_fi S (g_lf τ t)).testBit x <;> cases (g_fi S (g_rt τ t)).testBit x <;> cases g_nu S (g_lf τ t) <;> cases g_nu S (g_rt τ t) <;> simp
    · intro c hc e hcP hlt
      rw [if_pos rfl, step c hcP hlt (by show (S c).2.1.testBit x = true; rw [← e]; exact hf) σ hσ]
      rcases hc with ⟨k5, hb⟩ | ⟨k6, hc⟩
      · rw [if_neg (by omega), if_neg (by omega), if_pos k5, hb]
        rfl
      · rw [if_neg (by omega), if_neg (by omega), if_neg (by omega), if_pos k6, hc]
end GX
/-! the least types -/
def g_le (p q : Bool × Nat × Nat) : Prop := (p.1 = true → q.1 = true) ∧ (∀ x, p.2.1.testBit x = true → q.2.1.testBit x = true) ∧ ∀ x, p.2.2.testBit x = true → q.2.2.testBit x = true
theorem g_le_rfl (p : Bool × Nat × Nat) : g_le p p := ⟨id, fun _ => id, fun _ => id⟩
theorem g_le_trans {p q r : Bool × Nat × Nat} (h1 : g_le p q) (h2 : g_le q r) : g_le p r := ⟨fun z => h2.1 (h1.1 z), fun x z => h2.2.1 x (h1.2.1 x z), fun x z => h2.2.2 x (h1.2.2 x z)⟩
theorem g_le_anti {p q : Bool × Nat × Nat} (h1 : g_le p q) (h2 : g_le q p) : p = q := by
  have e : ∀ a b : Nat, (∀ x, a.testBit x = true → b.testBit x = true) → (∀ x, b.testBit x = true → a.testBit x = true) → a = b := by
    intro a b u v
    apply Nat.eq_of_testBit_eq
    intro x
    cases ha : a.testBit x <;> cases hb : b.testBit x
    · rfl
    · rw [v x hb] at ha; cases ha
    · rw [u x ha] at hb; cases hb
    · rfl
  obtain ⟨p1, p2, p3⟩ := p
  obtain ⟨q1, q2, q3⟩ := q
  have a1 : p1 = q1 := by
    have u := h1.1; have v := h2.1
    revert u v
    show (p1 = true → q1 = true) → (q1 = true → p1 = true) → p1 = q1
    cases p1 <;> cases q1 <;> simp
  rw [a1, e p2 q2 h1.2.1 h2.2.1, e p3 q3 h1.2.2 h2.2.2]
theorem g_or_le {a b c : Nat} (h1 : ∀ x, a.testBit x = true → c.testBit x = true) (h2 : ∀ x, b.testBit x = true → c.testBit x = true) : ∀ x, (a ||| b).testBit x = true → c.testBit x = true := by
  intro x hx
  rw [Nat.testBit_or, Bool.or_eq_true] at hx
  exact hx.elim (h1 x) (h2 x)
theorem g_or_l (a b : Nat) : ∀ x, a.testBit x = true → (a ||| b).testBit x = true := fun x z => by rw [Nat.testBit_or, z]; rfl
theorem g_or_r (a b : Nat) : ∀ x, b.testBit x = true → (a ||| b).testBit x = true := fun x z => by rw [Nat.testBit_or, z, Bool.or_true]
/-- S is closed under what is demanded -/
def g_cl (τ : Tb) (root : Nat) (S : TS) : Prop := ∀ t, t ∈ g_P τ root → g_le (g_F τ root S t) (S t)
def g_low (τ : Tb) (root : Nat) (S : TS) : Prop := ∀ X : TS, g_cl τ root X → ∀ t, t ∈ g_P τ root → g_le (S t) (X t)
def g_LF (τ : Tb) (root : Nat) (S : TS) : Prop := g_cl τ root S ∧ g_low τ root S
section GL
variable {n : Nat} {τ : Tb} {root : Nat}
theorem g_F_mono (h : g_WF n τ) (hr : root < n) {S X : TS} (hle : ∀ t, t ∈ g_P τ root → g_le (S t) (X t)) {t : Nat} (ht : t ∈ g_P τ root) : g_le (g_F τ root S t) (g_F τ root X t) := by
  unfold g_F
  by_cases k0 : g_kd τ t = 0
  · rw [if_pos k0, if_pos k0]; exact g_le_rfl _
  rw [if_neg k0, if_neg k0]
  by_cases k2 : g_kd τ t = 2
  · rw [if_pos k2, if_pos k2]; exact g_le_rfl _
  rw [if_neg k2, if_neg k2]
  by_cases k3 : g_kd τ t = 3
  · rw [if_pos k3, if_pos k3]
    have a := hle _ (g_lfP h hr ht (by omega)).1
    have b := hle _ (g_rtP h hr ht (by omega)).1
    have z0 : ∀ c : Nat, ∀ x, (0 : Nat).testBit x = true → c.testBit x = true := fun c x z => by simp at z
    refine ⟨?_, ?_, ?_⟩
    · show (g_nu S (g_lf τ t) && g_nu S (g_rt τ t)) = true → (g_nu X (g_lf τ t) && g_nu X (g_rt τ t)) = true
      rw [Bool.and_eq_true, Bool.and_eq_true]
      exact fun z => ⟨a.1 z.1, b.1 z.2⟩
    · refine g_or_le (fun x z => g_or_l _ _ x (a.2.1 x z)) ?_
      cases hn : g_nu S (g_lf τ t) with
      | false => simp only [Bool.false_eq_true, if_false]; exact z0 _
      | true =>
        have hn' : g_nu X (g_lf τ t) = true := a.1 hn
        rw [hn', if_pos rfl, if_pos rfl]
        exact fun x z => g_or_r _ _ x (b.2.1 x z)
    · refine g_or_le (fun x z => g_or_l _ _ x (b.2.2 x z)) ?_
      cases hn : g_nu S (g_rt τ t) with
      | false => simp only [Bool.false_eq_true, if_false]; exact z0 _
      | true =>
        have hn' : g_nu X (g_rt τ t) = true := b.1 hn
        rw [hn', if_pos rfl, if_pos rfl]
        exact g_or_le (fun x z => g_or_r _ _ x (g_or_l _ _ x (b.2.1 x z))) (fun x z => g_or_r _ _ x (g_or_r _ _ x (a.2.2 x z)))
  rw [if_neg k3, if_neg k3]
  by_cases k4 : g_kd τ t = 4
  · rw [if_pos k4, if_pos k4]
    have a := hle _ (g_lfP h hr ht (by omega)).1
    have b := hle _ (g_rtP h hr ht (by omega)).1
    refine ⟨?_, g_or_le (fun x z => g_or_l _ _ x (a.2.1 x z)) (fun x z => g_or_r _ _ x (b.2.1 x z)), g_or_le (fun x z => g_or_l _ _ x (a.2.2 x z)) (fun x z => g_or_r _ _ x (b.2.2 x z))⟩
    show (g_nu S (g_lf τ t) || g_nu S (g_rt τ t)) = true → (g_nu X (g_lf τ t) || g_nu X (g_rt τ t)) = true
    rw [Bool.or_eq_true, Bool.or_eq_true]
    exact fun z => z.elim (fun z => Or.inl (a.1 z)) (fun z => Or.inr (b.1 z))
  rw [if_neg k4, if_neg k4]
  by_cases k5 : g_kd τ t = 5
  · rw [if_pos k5, if_pos k5]
    cases hb : g_B τ root (g_sg τ t) t with
    | none => exact g_le_rfl _
    | some k => exact hle k (g_B_some h hr _ _ ht (Nat.le_refl _) hb).2.2.2.1
  rw [if_neg k5, if_neg k5]
  by_cases k6 : g_kd τ t = 6
  · rw [if_pos k6, if_pos k6]
    exact hle _ (g_lfP h hr ht (by omega)).1
  · rw [if_neg k6, if_neg k6]; exact g_le_rfl _
theorem g_F_congr (h : g_WF n τ) (hr : root < n) {S X : TS} (hle : ∀ t, t ∈ g_P τ root → S t = X t) {t : Nat} (ht : t ∈ g_P τ root) : g_F τ root S t = g_F τ root X t :=
  g_le_anti (g_F_mono h hr (fun u hu => by rw [hle u hu]; exact g_le_rfl _) ht) (g_F_mono h hr (fun u hu => by rw [hle u hu]; exact g_le_rfl _) ht)
theorem g_LF_fix (h : g_WF n τ) (hr : root < n) {S : TS} (hS : g_LF τ root S) {t : Nat} (ht : t ∈ g_P τ root) : S t = g_F τ root S t :=
  g_le_anti (hS.2 (g_F τ root S) (fun _ hu => g_F_mono h hr hS.1 hu) t ht) (hS.1 t ht)
theorem g_LF_uniq {S X : TS} (h1 : g_LF τ root S) (h2 : g_LF τ root X) {t : Nat} (ht : t ∈ g_P τ root) : S t = X t := g_le_anti (h1.2 X h2.1 t ht) (h2.2 S h1.1 t ht)
theorem g_255 (h : g_WF n τ) (hr : root < n) : g_cl τ root (fun _ => (true, 255, 255)) := by
  intro t ht
  have w := h.2 t (g_P_lt h hr ht)
  have b255 : ∀ x, (255 : Nat).testBit x = decide (x < 8) := fun x => by
    have := Nat.testBit_two_pow_sub_one 8 x
    simpa using this
  have z0 : ∀ c : Nat, ∀ x, (0 : Nat).testBit x = true → c.testBit x = true := fun c x z => by simp at z
  have r := g_le_rfl (true, 255, 255)
  unfold g_F
  split
  · exact ⟨fun _ => rfl, z0 _, z0 _⟩
  split
  · rename_i k2
    refine ⟨fun _ => rfl, fun x z => ?_, z0 _⟩
    rw [Nat.testBit_two_pow] at z
    have e : g_sg τ t = x := by simpa using z
    have := w.2.1 k2
    show (255 : Nat).testBit x = true
    rw [b255]
    simpa using (by omega : x < 8)
  split
  · refine ⟨fun _ => rfl, g_or_le (fun _ => id) ?_, g_or_le (fun _ => id) ?_⟩
    · show ∀ x, (if true = true then (255:Nat) else 0).testBit x = true → _
      exact fun _ => id
    · show ∀ x, (if true = true then (255:Nat) ||| 255 else 0).testBit x = true → _
      exact g_or_le (fun _ => id) (fun _ => id)
  split
  · exact ⟨fun _ => rfl, g_or_le (fun _ => id) (fun _ => id), g_or_le (fun _ => id) (fun _ => id)⟩
  split
  · split
    · exact r
    · exact ⟨fun _ => rfl, z0 _, z0 _⟩
  split
  · exact r
  · exact ⟨fun _ => rfl, z0 _, z0 _⟩
theorem g_lt256 {a : Nat} (h : ∀ x, a.testBit x = true → (255 : Nat).testBit x = true) : a < 256 := by
  have b255 : ∀ x, (255 : Nat).testBit x = decide (x < 8) := fun x => by
    have := Nat.testBit_two_pow_sub_one 8 x
    simpa using this
  have : a < 2 ^ 8 := by
    apply Nat.lt_pow_two_of_testBit
    intro i hi
    cases hb : a.testBit i with
    | false => rfl
    | true =>
      have := h i hb
      rw [b255] at this
      have : i < 8 := by simpa using this
      omega
  simpa using this
theorem g_LF_256 (h : g_WF n τ) (hr : root < n) {S : TS} (hS : g_low τ root S) {t : Nat} (ht : t ∈ g_P τ root) : g_fi S t < 256 ∧ g_af S t < 256 := by
  have q := hS _ (g_255 h hr) t ht
  exact ⟨g_lt256 q.2.1, g_lt256 q.2.2⟩
end GL
/-- THE types of all in a term -/
noncomputable def g_T (τ : Tb) (root : Nat) : TS := @dite _ (∃ S, g_LF τ root S) (Classical.propDecidable _) (fun h => Classical.choose h) (fun _ _ => (false, 0, 0))
theorem g_T_LF {τ : Tb} {root : Nat} {S : TS} (h : g_LF τ root S) : g_LF τ root (g_T τ root) := by
  have hx : ∃ S, g_LF τ root S := ⟨S, h⟩
  unfold g_T
  rw [dif_pos hx]
  exact Classical.choose_spec hx
theorem g_T_eq {τ : Tb} {root : Nat} {S : TS} (h : g_LF τ root S) {t : Nat} (ht : t ∈ g_P τ root) : S t = g_T τ root t := g_LF_uniq h (g_T_LF h) ht
/-- what keeps a term from being typed: at one term, and first of all -/
def g_fa (τ : Tb) (root : Nat) (S : TS) (t : Nat) : Nat :=
  if g_kd τ t = 5 then (match g_B τ root (g_sg τ t) t with | none => 1 | some _ => if g_G τ root (g_sg τ t) t then 0 else 2)
  else if g_kd τ t = 3 then (if g_nu S (g_lf τ t) = true ∨ g_af S (g_lf τ t) &&& g_fi S (g_rt τ t) ≠ 0 then 3 else 0)
  else if g_kd τ t = 4 then (if (g_nu S (g_lf τ t) && g_nu S (g_rt τ t)) = true ∨ g_fi S (g_lf τ t) &&& g_fi S (g_rt τ t) ≠ 0 then 4 else 0) else 0
def g_ff (τ : Tb) (root : Nat) (S : TS) : List Nat → Nat
  | [] => 0
  | t :: l => if g_fa τ root S t = 0 then g_ff τ root S l else g_fa τ root S t + 8 * t
noncomputable def g_fo (τ : Tb) (root : Nat) : Nat := g_ff τ root (g_T τ root) (g_P τ root)
theorem g_ff_zero {τ : Tb} {root : Nat} {S : TS} : ∀ {l : List Nat}, g_ff τ root S l = 0 ↔ ∀ t, t ∈ l → g_fa τ root S t = 0
  | [] => by simp [g_ff]
  | a :: l => by
    have ih := g_ff_zero (τ := τ) (root := root) (S := S) (l := l)
    unfold g_ff
    split
    · rename_i h0
      rw [ih]
      constructor
      · intro q t ht
        rcases List.mem_cons.mp ht with rfl | ht
        · exact h0
        · exact q t ht
      · exact fun q t ht => q t (by simp [ht])
    · rename_i h0
      constructor
      · intro q; omega
      · intro q; exact absurd (q a (by simp)) h0
theorem g_fa_le {τ : Tb} {root : Nat} {S : TS} (t : Nat) : g_fa τ root S t ≤ 4 := by
  unfold g_fa
  repeat' split
  all_goals omega
theorem g_fo_TY {n : Nat} {τ : Tb} {root : Nat} (h : g_WF n τ) (hr : root < n) (hL : g_LF τ root (g_T τ root)) (h0 : g_fo τ root = 0) : g_TY τ root (g_T τ root) := by
  refine ⟨fun t ht => g_LF_fix h hr hL ht, fun t ht => g_LF_256 h hr hL.2 ht, fun t ht => ?_⟩
  have q := g_ff_zero.mp h0 t ht
  unfold g_fa at q
  refine ⟨fun k5 => ?_, fun k3 => ?_, fun k4 => ?_⟩
  · rw [if_pos k5] at q
    cases hb : g_B τ root (g_sg τ t) t with
    | none => rw [hb] at q; cases q
    | some k =>
      rw [hb] at q
      refine ⟨k, rfl, ?_⟩
      cases hg : g_G τ root (g_sg τ t) t with
      | true => rfl
      | false => rw [hg] at q; cases q
  · rw [if_neg (by omega), if_pos k3] at q
    split at q
    · cases q
    · rename_i hn
      rw [not_or] at hn
      exact ⟨by simpa using hn.1, Decidable.of_not_not hn.2⟩
  · rw [if_neg (by omega), if_neg (by omega), if_pos k4] at q
    split at q
    · cases q
    · rename_i hn
      rw [not_or] at hn
      exact ⟨by simpa using hn.1, Decidable.of_not_not hn.2⟩
/-! whole numbers of 32 bits as sets of letters -/
theorem e_bv (a : Nat) : (nI a).toBitVec = BitVec.ofNat 32 a := rfl
theorem e_and (a b : Nat) : nI a &&& nI b = nI (a &&& b) := by
  apply Int32.toBitVec_inj.mp
  rw [Int32.toBitVec_and, e_bv, e_bv, e_bv]
  apply BitVec.eq_of_getLsbD_eq
  intro i hi
  simp [hi, Nat.testBit_and]
theorem e_or (a b : Nat) : nI a ||| nI b = nI (a ||| b) := by
  apply Int32.toBitVec_inj.mp
  rw [Int32.toBitVec_or, e_bv, e_bv, e_bv]
  apply BitVec.eq_of_getLsbD_eq
  intro i hi
  simp [hi, Nat.testBit_or]
theorem e_z {a : Nat} (h : a < 2 ^ 31) : nI a = 0 ↔ a = 0 := by
  rw [← nI_0]
  exact nI_eq h (by decide)
theorem e_andn {a b : Nat} (ha : a < 256) (hb : b < 256) : nI a &&& (nI b ^^^ (-1)) = 0 ↔ b ||| a = b := by
  have e : nI a &&& (nI b ^^^ (-1)) = nI (a &&& (b ^^^ 255)) := by
    apply Int32.toBitVec_inj.mp
    rw [Int32.toBitVec_and, Int32.toBitVec_xor, e_bv, e_bv, e_bv]
    apply BitVec.eq_of_getLsbD_eq
    intro i hi
    have h1 : ((-1 : Int32).toBitVec).getLsbD i = true := by
      have : ((-1 : Int32).toBitVec) = BitVec.allOnes 32 := by decide
      rw [this, BitVec.getLsbD_allOnes]; simpa using hi
    have h255 : (255 : Nat).testBit i = decide (i < 8) := by
      have := Nat.testBit_two_pow_sub_one 8 i
      simpa using this
    rw [BitVec.getLsbD_and, BitVec.getLsbD_xor, h1]
    simp only [BitVec.getLsbD_ofNat, hi, decide_true, Bool.true_and, Nat.testBit_and, Nat.testBit_xor, h255]
    by_cases h8 : i < 8
    · simp [h8]
    · have : a.testBit i = false := Nat.testBit_lt_two_pow (Nat.lt_of_lt_of_le ha (by have : 2 ^ 8 ≤ 2 ^ i := Nat.pow_le_pow_right (by decide) (by omega); simpa using this))
      simp [this]
  have hlt : a &&& (b ^^^ 255) < 2 ^ 31 := Nat.lt_of_le_of_lt Nat.and_le_left (by omega)
  rw [e, e_z hlt]
  have h255 : ∀ i, (255 : Nat).testBit i = decide (i < 8) := fun i => by
    have := Nat.testBit_two_pow_sub_one 8 i
    simpa using this
  have big : ∀ c, c < 256 → ∀ i, ¬ i < 8 → c.testBit i = false := fun c hc i h8 => Nat.testBit_lt_two_pow (Nat.lt_of_lt_of_le hc (by have : 2 ^ 8 ≤ 2 ^ i := Nat.pow_le_pow_right (by decide) (by omega); simpa using this))
  constructor
  · intro h
    apply Nat.eq_of_testBit_eq
    intro i
    have q : (a &&& (b ^^^ 255)).testBit i = false := by rw [h]; simp
    rw [Nat.testBit_and, Nat.testBit_xor, h255] at q
    rw [Nat.testBit_or]
    by_cases h8 : i < 8
    · simp [h8] at q
      cases hb' : b.testBit i <;> cases ha' : a.testBit i <;> simp_all
    · rw [big a ha i h8, Bool.or_false]
  · intro h
    apply Nat.eq_of_testBit_eq
    intro i
    rw [Nat.testBit_and, Nat.testBit_xor, h255, Nat.zero_testBit]
    have q : (b ||| a).testBit i = b.testBit i := by rw [h]
    rw [Nat.testBit_or] at q
    by_cases h8 : i < 8
    · simp [h8]
      cases hb' : b.testBit i <;> cases ha' : a.testBit i <;> simp_all
    · rw [big a ha i h8, Bool.false_and]
theorem e_shl : ∀ k, k < 8 → nI 1 <<< (nI k &&& 31) = nI (2 ^ k) := by decide
theorem e_bit {a x : Nat} : a &&& 2 ^ x = 0 ↔ a.testBit x = false := by
  constructor
  · intro h
    have q : (a &&& 2 ^ x).testBit x = false := by rw [h]; simp
    rw [Nat.testBit_and, Nat.testBit_two_pow_self, Bool.and_true] at q
    exact q
  · intro h
    apply Nat.eq_of_testBit_eq
    intro i
    rw [Nat.testBit_and, Nat.testBit_two_pow, Nat.zero_testBit]
    by_cases e : x = i
    · subst e; rw [h]; rfl
    · rw [decide_eq_false e, Bool.and_false]
theorem e_lt {a b : Nat} (ha : a < 256) : a &&& b < 2 ^ 31 := Nat.lt_of_le_of_lt Nat.and_le_left (by omega)
theorem e_or_lt {a b : Nat} (ha : a < 256) (hb : b < 256) : a ||| b < 256 := by
  have := Nat.or_lt_two_pow (n := 8) ha hb
  simpa using this
