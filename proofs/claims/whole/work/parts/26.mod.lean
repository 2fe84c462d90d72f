/-! for the reference, pure: the order of a term's terms, and types made anew -/
def g_lm (τ : Tb) (t : Nat) : Nat := (g_P τ t).headD 0
def g_nxt (τ : Tb) (t : Nat) : Nat := if (g_kd τ (g_wh τ t) = 3 ∨ g_kd τ (g_wh τ t) = 4) ∧ g_rt τ (g_wh τ t) ≠ t then g_lm τ (g_rt τ (g_wh τ t)) else g_wh τ t
def g_chn (τ : Tb) : List Nat → Prop
  | [] => True
  | [_] => True
  | a :: b :: l => b = g_nxt τ a ∧ g_chn τ (b :: l)
theorem g_chn_app {τ : Tb} : ∀ {l m : List Nat}, g_chn τ l → g_chn τ m → (∀ a b, l.getLast? = some a → m.head? = some b → b = g_nxt τ a) → g_chn τ (l ++ m)
  | [], m, _, h2, _ => h2
  | [a], [], _, _, _ => trivial
  | [a], b :: m, _, h2, h3 => ⟨h3 a b rfl rfl, h2⟩
  | a :: b :: l, m, h1, h2, h3 => ⟨h1.1, g_chn_app (l := b :: l) h1.2 h2 (fun x y hx hy => h3 x y (by rw [List.getLast?_cons_cons]; exact hx) hy)⟩
section GM
variable {n : Nat} {τ : Tb} {root : Nat} {S : TS}
theorem g_lm_eq (h : g_WF n τ) {t : Nat} (ht : t < n) : g_lm τ t = if g_kd τ t = 3 ∨ g_kd τ t = 4 ∨ g_kd τ t = 6 then g_lm τ (g_lf τ t) else t := by
  have hc := (h.2 t ht).2.2.2.1
  have hd : ∀ c, c ∈ g_ch τ t → ∀ l, (g_P τ c ++ l).headD 0 = (g_P τ c).headD 0 := fun c hcm l => by
    have q := g_P_pos h (show c < n by have := hc c hcm; omega)
    cases hp : g_P τ c with
    | nil => rw [hp] at q; simp at q
    | cons a m => rfl
  unfold g_lm
  rw [g_P_eq h ht]
  by_cases k6 : g_kd τ t = 6
  · rw [g_ch6 k6] at hd ⊢
    rw [if_pos (Or.inr (Or.inr k6)), List.flatMap_cons, List.flatMap_nil, List.append_nil]
    exact hd _ (by simp) _
  by_cases k3 : g_kd τ t = 3 ∨ g_kd τ t = 4
  · rw [g_ch4 k3] at hd ⊢
    rw [if_pos (k3.elim Or.inl (fun z => Or.inr (Or.inl z))), List.flatMap_cons, List.append_assoc]
    exact hd _ (by simp) _
  · have hc0 : g_ch τ t = [] := by unfold g_ch; rw [if_neg k6, if_neg k3]
    rw [hc0, if_neg (by omega)]
    rfl
theorem g_P_last (h : g_WF n τ) {t : Nat} (ht : t < n) : (g_P τ t).getLast? = some t := by
  rw [g_P_eq h ht, List.getLast?_append]
  rfl
theorem g_P_chn (h : g_WF n τ) : ∀ t, t < n → g_chn τ (g_P τ t) := by
  intro t
  induction t using Nat.strongRecOn with
  | ind t ih =>
    intro ht
    have hc := (h.2 t ht).2.2.2.1
    have hhd : ∀ c, c < n → ∀ l b, (g_P τ c ++ l).head? = some b → b = g_lm τ c := fun c hcn l b hb => by
      have q := g_P_pos h hcn
      unfold g_lm
      cases hp : g_P τ c with
      | nil => rw [hp] at q; simp at q
      | cons a m => rw [hp] at hb; simp at hb; exact hb.symm
    rw [g_P_eq h ht]
    by_cases k6 : g_kd τ t = 6
    · have a := hc (g_lf τ t) (by rw [g_ch6 k6]; simp)
      rw [g_ch6 k6, List.flatMap_cons, List.flatMap_nil, List.append_nil]
      refine g_chn_app (ih _ a.1 (by omega)) trivial (fun x y hx hy => ?_)
      rw [g_P_last h (by omega)] at hx
      cases hx
      cases hy
      unfold g_nxt
      rw [a.2.2, if_neg (by omega)]
    by_cases k3 : g_kd τ t = 3 ∨ g_kd τ t = 4
    · have a := hc (g_lf τ t) (by rw [g_ch4 k3]; simp)
      have b := hc (g_rt τ t) (by rw [g_ch4 k3]; simp)
      have hne := (h.2 t ht).2.2.2.2.1 k3
      rw [g_ch4 k3, List.flatMap_cons, List.flatMap_cons, List.flatMap_nil, List.append_nil, List.append_assoc]
      refine g_chn_app (ih _ a.1 (by omega)) (g_chn_app (ih _ b.1 (by omega)) trivial (fun x y hx hy => ?_)) (fun x y hx hy => ?_)
      · rw [g_P_last h (by omega)] at hx
        cases hx
        cases hy
        unfold g_nxt
        rw [b.2.2, if_neg (fun z => z.2 rfl)]
      · rw [g_P_last h (by omega)] at hx
        cases hx
        rw [hhd _ (by omega) _ _ hy]
        unfold g_nxt
        rw [a.2.2, if_pos ⟨k3, fun z => hne z.symm⟩]
    · have hc0 : g_ch τ t = [] := by unfold g_ch; rw [if_neg k6, if_neg k3]
      rw [hc0]
      exact trivial
/-- what isn't in a term, isn't part of what is in it -/
theorem g_P_notin (h : g_WF n τ) (hr : root < n) {u : Nat} (hu : u < n) (hn : u ∉ g_P τ root) (hip : g_ip τ u = 1) : g_wh τ u ∉ g_P τ root ∧ u < g_wh τ u ∧ g_wh τ u < n := by
  obtain ⟨q1, q2, q3⟩ := (h.2 u hu).2.2.2.2.2 hip
  exact ⟨fun z => hn (g_P_down h (g_wh τ u) hr z q3), q1, q2⟩
/-- types made greater, one by one -/
def g_inc (τ : Tb) (root : Nat) (S : TS) : Prop := ∀ t, t ∈ g_P τ root → g_le (S t) (g_F τ root S t)
theorem g_inc_0 : g_inc τ root (fun _ => (false, 0, 0)) := fun t _ => ⟨fun z => (by cases z), fun x z => (by simp at z), fun x z => (by simp at z)⟩
theorem g_inc_up (h : g_WF n τ) (hr : root < n) {t : Nat} (ht : t ∈ g_P τ root) (hi : g_inc τ root S) : g_inc τ root (g_upS S t (g_F τ root S t)) := by
  have hle : ∀ u, u ∈ g_P τ root → g_le (S u) (g_upS S t (g_F τ root S t) u) := fun u hu => by
    by_cases e : u = t
    · subst e; rw [g_upS_same]; exact hi u hu
    · rw [g_upS_ne e]; exact g_le_rfl _
  intro u hu
  by_cases e : u = t
  · subst e
    rw [g_upS_same]
    exact g_F_mono h hr hle hu
  · rw [g_upS_ne e]
    exact g_le_trans (hi u hu) (g_F_mono h hr hle hu)
theorem g_low_F (h : g_WF n τ) (hr : root < n) {t : Nat} (ht : t ∈ g_P τ root) (hl : g_low τ root S) : g_low τ root (g_upS S t (g_F τ root S t)) :=
  g_low_up h hr hl ht (fun X hX hle => g_le_trans (g_F_mono h hr hle ht) (hX t ht))
end GM
/-- the reference's types, binders and what is inside -/
abbrev g_YM (τ : Tb) (root : Nat) (S : TS) (Z : ZT) : Prop := g_EY τ root S (Z 7) (Z 8) (Z 9)
def g_BM (τ : Tb) (root : Nat) (Z : ZT) : Prop := ∀ t, t ∈ g_P τ root → g_kd τ t = 5 → Z 11 t = g_ox (g_B τ root (g_sg τ t) t)
def g_IM (n : Nat) (τ : Tb) (root : Nat) (Z : ZT) : Prop := ∀ t, t < n → Z 10 t = b2 (decide (t ∈ g_P τ root))
theorem g_EM_fr {n : Nat} {τ : Tb} {ks : List Nat} {Z Z' : ZT} (h : g_fr ks Z Z') (hk : ∀ k, k ∈ [1, 2, 3, 4, 5, 6] → k ∉ ks) (hE : g_EM n τ Z) : g_EM n τ Z' := by
  unfold g_EM
  rw [h 1 (hk 1 (by decide)), h 2 (hk 2 (by decide)), h 3 (hk 3 (by decide)), h 4 (hk 4 (by decide)), h 5 (hk 5 (by decide)), h 6 (hk 6 (by decide))]
  exact hE
theorem g_YM_fr {τ : Tb} {root : Nat} {S : TS} {ks : List Nat} {Z Z' : ZT} (h : g_fr ks Z Z') (hk : ∀ k, k ∈ [7, 8, 9] → k ∉ ks) (hE : g_YM τ root S Z) : g_YM τ root S Z' := by
  unfold g_YM
  rw [h 7 (hk 7 (by decide)), h 8 (hk 8 (by decide)), h 9 (hk 9 (by decide))]
  exact hE
theorem g_BM_fr {τ : Tb} {root : Nat} {ks : List Nat} {Z Z' : ZT} (h : g_fr ks Z Z') (hk : 11 ∉ ks) (hE : g_BM τ root Z) : g_BM τ root Z' := by
  unfold g_BM
  rw [h 11 hk]
  exact hE
theorem g_IM_fr {n : Nat} {τ : Tb} {root : Nat} {ks : List Nat} {Z Z' : ZT} (h : g_fr ks Z Z') (hk : 10 ∉ ks) (hE : g_IM n τ root Z) : g_IM n τ root Z' := by
  unfold g_IM
  rw [h 10 hk]
  exact hE
theorem g_EM_lf {n : Nat} {τ : Tb} {Z : ZT} {t : Nat} (hE : g_EM n τ Z) (ht : t < n) (hk : g_kd τ t = 3 ∨ g_kd τ t = 4 ∨ g_kd τ t = 6) : Z 3 t = nI (g_lf τ t) := g_E_lf hE ht hk
theorem g_EM_rt {n : Nat} {τ : Tb} {Z : ZT} {t : Nat} (hE : g_EM n τ Z) (ht : t < n) (hk : g_kd τ t = 3 ∨ g_kd τ t = 4) : Z 4 t = nI (g_rt τ t) := g_E_rt hE ht hk
theorem g_EM_wh {n : Nat} {τ : Tb} {Z : ZT} {t : Nat} (hE : g_EM n τ Z) (ht : t < n) (hk : g_ip τ t = 1) : Z 5 t = nI (g_wh τ t) := (hE t ht).2.2.2.2.1.trans (if_pos hk)
/-- a type written at t -/
theorem g_YM_up {τ : Tb} {root : Nat} {S : TS} {Z : ZT} {t : Nat} {q : Bool × Nat × Nat} (hY : g_YM τ root S Z) (h1 : q.2.1 < 256) (h2 : q.2.2 < 256) : g_YM τ root (g_upS S t q) (upR (upR (upR Z 7 (upd (Z 7) t (b2 q.1))) 8 (upd (Z 8) t (nI q.2.1))) 9 (upd (Z 9) t (nI q.2.2))) := fun u hu => by
  show upd (Z 7) t (b2 q.1) u = b2 (g_upS S t q u).1 ∧ upd (Z 8) t (nI q.2.1) u = nI (g_upS S t q u).2.1 ∧ upd (Z 9) t (nI q.2.2) u = nI (g_upS S t q u).2.2 ∧ (g_upS S t q u).2.1 < 256 ∧ (g_upS S t q u).2.2 < 256
  by_cases e : u = t
  · subst e
    rw [e_upd_same, e_upd_same, e_upd_same, g_upS_same]
    exact ⟨rfl, rfl, rfl, h1, h2⟩
  · rw [e_upd_ne _ _ e, e_upd_ne _ _ e, e_upd_ne _ _ e, g_upS_ne e]
    exact hY u hu
