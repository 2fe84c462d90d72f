/-! counting: the sums in 64 bits, one step, and when a step changes nothing -/
def s64 (f : Nat → Int64) : Nat → Int64
  | 0 => lN 0
  | i + 1 => s64 f i + f i
theorem s64_lN {f : Nat → Int64} {g : Nat → Nat} : ∀ {i : Nat}, (∀ j, j < i → f j = lN (g j)) → s64 f i = lN (g_sp g i)
  | 0, _ => rfl
  | i + 1, h => by
    show s64 f i + f i = lN (g_sp g i + g i)
    rw [s64_lN (fun j hj => h j (by omega)), h i (by omega), lN_add]
theorem s64_congr {f g : Nat → Int64} : ∀ {i : Nat}, (∀ j, j < i → f j = g j) → s64 f i = s64 g i
  | 0, _ => rfl
  | i + 1, h => by
    show s64 f i + f i = s64 g i + g i
    rw [s64_congr (fun j hj => h j (by omega)), h i (by omega)]
/-- what a step makes of the number of words of n letters; m: the reference's way (its pairs leave out the empty first part) -/
def g_w64 (τ : Tb) (root : Nat) (m : Bool) (v : Nat → Nat → Int64) (t n : Nat) : Int64 :=
  if g_kd τ t = 0 then (if n = 0 then lN 1 else lN 0) else if g_kd τ t = 2 then (if n = 1 then lN 1 else lN 0)
  else if g_kd τ t = 3 then (if m then s64 (fun k => v (g_lf τ t) (k + 1) * v (g_rt τ t) (n - (k + 1))) n else s64 (fun k => v (g_lf τ t) k * v (g_rt τ t) (n - k)) (n + 1))
  else if g_kd τ t = 4 then v (g_lf τ t) n + v (g_rt τ t) n
  else if g_kd τ t = 5 then v ((g_B τ root (g_sg τ t) t).getD 0) n else if g_kd τ t = 6 then v (g_lf τ t) n else lN 0
/-- the numbers of words of fewer than n letters -/
def g_CN (τ : Tb) (root n : Nat) (v : Nat → Nat → Int64) : Prop := ∀ t, t ∈ g_P τ root → ∀ j, j < n → v t j = lN (g_c τ root t j)
/-- how many terms of the root come before t by rank -/
def g_clk (τ : Tb) (root : Nat) (t : Nat) : Nat := ((g_P τ root).filter (fun u => decide (g_rk τ root u < g_rk τ root t))).length
def g_Ip (τ : Tb) (root n p : Nat) (v : Nat → Nat → Int64) : Prop := ∀ t, t ∈ g_P τ root → g_clk τ root t < p → v t n = lN (g_c τ root t n)
section GK
variable {n : Nat} {τ : Tb} {root : Nat} {S : TS}
theorem g_w64_step (h : g_WF n τ) (hr : root < n) (hT : g_TY τ root S) {m : Bool} {v : Nat → Nat → Int64} {t k : Nat} (ht : t ∈ g_P τ root) (hCN : g_CN τ root k v) (hlow : ∀ u, u ∈ g_P τ root → g_rk τ root u < g_rk τ root t → v u k = lN (g_c τ root u k)) : g_w64 τ root m v t k = lN (g_c τ root t k) := by
  have low : ∀ u, u ∈ g_P τ root → g_rk τ root u < g_rk τ root t → ∀ j, j ≤ k → v u j = lN (g_c τ root u j) := fun u hu hlt j hj => by
    rcases Nat.lt_or_eq_of_le hj with e | e
    · exact hCN u hu j e
    · rw [e]; exact hlow u hu hlt
  rw [g_c_eq h hr hT ht]
  unfold g_w64
  by_cases k0 : g_kd τ t = 0
  · rw [if_pos k0, if_pos k0]; split <;> rfl
  rw [if_neg k0, if_neg k0]
  by_cases k2 : g_kd τ t = 2
  · rw [if_pos k2, if_pos k2]; split <;> rfl
  rw [if_neg k2, if_neg k2]
  by_cases k3 : g_kd τ t = 3
  · rw [if_pos k3, if_pos k3]
    have a := g_lfP h hr ht (by omega)
    have b := g_rtP h hr ht (by omega)
    have r1 := (g_rk_lf h hr ht (by omega)).2
    cases m with
    | true =>
      rw [if_pos rfl, g_sp_head, if_pos rfl, Nat.zero_add]
      apply s64_lN
      intro j hj
      show _ = lN (if j + 1 = 0 then 0 else g_c τ root (g_lf τ t) (j + 1) * g_c τ root (g_rt τ t) (k - (j + 1)))
      rw [if_neg (by omega), low _ a.1 r1 (j + 1) (by omega), hCN _ b.1 (k - (j + 1)) (by omega), lN_mul]
    | false =>
      rw [if_neg (by decide)]
      apply s64_lN
      intro j hj
      show _ = lN (if j = 0 then 0 else g_c τ root (g_lf τ t) j * g_c τ root (g_rt τ t) (k - j))
      by_cases j0 : j = 0
      · rw [if_pos j0, j0, low _ a.1 r1 0 (Nat.zero_le _), g_c0 h hr hT _ _ a.1 (Nat.le_refl _), ((hT.2.2 t ht).2.1 k3).1]
        show lN 0 * _ = lN 0
        exact Int64.zero_mul
      · rw [if_neg j0, low _ a.1 r1 j (by omega), hCN _ b.1 (k - j) (by omega), lN_mul]
  rw [if_neg k3, if_neg k3]
  by_cases k4 : g_kd τ t = 4
  · rw [if_pos k4, if_pos k4]
    have a := g_lfP h hr ht (by omega)
    have b := g_rtP h hr ht (by omega)
    rw [hlow _ a.1 (g_rk_lf h hr ht (by omega)).2, hlow _ b.1 (g_rk_rt h hr ht k4).2, lN_add]
  rw [if_neg k4, if_neg k4]
  by_cases k5 : g_kd τ t = 5
  · rw [if_pos k5, if_pos k5]
    obtain ⟨d, h1, -⟩ := g_F5 hT ht k5
    have q := g_rk_var h hr hT ht k5 h1
    rw [h1]
    exact hlow d q.1 q.2.2
  rw [if_neg k5, if_neg k5]
  by_cases k6 : g_kd τ t = 6
  · rw [if_pos k6, if_pos k6]
    exact hlow _ (g_lfP h hr ht (by omega)).1 (g_rk_lf h hr ht (by omega)).2
  · rw [if_neg k6, if_neg k6]
theorem g_w64_fix (h : g_WF n τ) (hr : root < n) (hT : g_TY τ root S) {m : Bool} {v : Nat → Nat → Int64} {k : Nat} (hCN : g_CN τ root k v) (hfix : ∀ t, t ∈ g_P τ root → g_w64 τ root m v t k = v t k) : g_CN τ root (k + 1) v := by
  have key : ∀ r t, t ∈ g_P τ root → g_rk τ root t ≤ r → v t k = lN (g_c τ root t k) := by
    intro r
    induction r using Nat.strongRecOn with
    | ind r ih =>
      intro t ht hle
      rw [← hfix t ht]
      exact g_w64_step h hr hT ht hCN (fun u hu hlt => ih (g_rk τ root u) (by omega) u hu (Nat.le_refl _))
  intro t ht j hj
  by_cases e : j = k
  · rw [e]; exact key _ t ht (Nat.le_refl _)
  · exact hCN t ht j (by omega)
theorem g_fil_le {l : List Nat} {p q : Nat → Bool} (h : ∀ u, p u = true → q u = true) : (l.filter p).length ≤ (l.filter q).length := by
  induction l with
  | nil => exact Nat.le_refl _
  | cons a l ih =>
    rw [List.filter_cons, List.filter_cons]
    cases hp : p a with
    | true => rw [h a hp]; simpa using ih
    | false =>
      cases q a with
      | true => simp; omega
      | false => simpa using ih
theorem g_fil_lt {l : List Nat} {p q : Nat → Bool} (h : ∀ u, p u = true → q u = true) {t : Nat} (ht : t ∈ l) (h1 : p t = false) (h2 : q t = true) : (l.filter p).length < (l.filter q).length := by
  induction l with
  | nil => cases ht
  | cons a l ih =>
    rw [List.filter_cons, List.filter_cons]
    by_cases e : t = a
    · subst e
      rw [h1, h2]
      have := g_fil_le (l := l) h
      simp
      omega
    · have q2 := ih ((List.mem_cons.mp ht).resolve_left e)
      cases hp : p a with
      | true => rw [h a hp]; simpa using q2
      | false =>
        cases q a with
        | true => simp; omega
        | false => simpa using q2
theorem g_clk_lt {u t : Nat} (hu : u ∈ g_P τ root) (hlt : g_rk τ root u < g_rk τ root t) : g_clk τ root u < g_clk τ root t :=
  g_fil_lt (fun w hw => by rw [decide_eq_true_iff] at hw ⊢; omega) hu (by simp) (by simpa using hlt)
theorem g_clk_48 (h : g_WF n τ) (hr : root < n) {t : Nat} (ht : t ∈ g_P τ root) : g_clk τ root t < 48 := by
  have a := g_P_len h hr
  have b := g_fil_lt (l := g_P τ root) (p := fun u => decide (g_rk τ root u < g_rk τ root t)) (q := fun _ => true) (fun _ _ => rfl) ht (by simp) rfl
  have c : ((g_P τ root).filter (fun _ => true)).length = (g_P τ root).length := by simp
  unfold g_clk
  omega
/-- a step at t when what comes before t is final -/
theorem g_w64_clk (h : g_WF n τ) (hr : root < n) (hT : g_TY τ root S) {m : Bool} {v : Nat → Nat → Int64} {t k p : Nat} (ht : t ∈ g_P τ root) (hCN : g_CN τ root k v) (hI : g_Ip τ root k p v) (hc : g_clk τ root t ≤ p) : g_w64 τ root m v t k = lN (g_c τ root t k) :=
  g_w64_step h hr hT ht hCN (fun u hu hlt => hI u hu (by have := g_clk_lt hu hlt; omega))
theorem g_Ip_all (h : g_WF n τ) (hr : root < n) {v : Nat → Nat → Int64} {k p : Nat} (hp : 48 ≤ p) (hCN : g_CN τ root k v) (hI : g_Ip τ root k p v) : g_CN τ root (k + 1) v := by
  intro t ht j hj
  by_cases e : j = k
  · rw [e]; exact hI t ht (by have := g_clk_48 h hr ht; omega)
  · exact hCN t ht j (by omega)
theorem g_CN_0 {v : Nat → Nat → Int64} : g_CN τ root 0 v := fun _ _ j hj => by omega
end GK
/-- the class's rows of numbers -/
abbrev vD (L : LT) : Nat → Nat → Int64 := fun t j => L (100 + t) j
def g_f1 (L L' : LT) : Prop := ∀ k, k < 100 → L' k = L k
theorem g_f1_rfl {L : LT} : g_f1 L L := fun _ _ => rfl
theorem g_f1_trans {L L' L'' : LT} (h : g_f1 L L') (h2 : g_f1 L' L'') : g_f1 L L'' := fun j hj => (h2 j hj).trans (h j hj)
theorem g_f1_up {L L' : LT} (h : g_f1 L L') (t : Nat) (f : Nat → Int64) : g_f1 L (upR L' (100 + t) f) := fun j hj => by
  rw [upR_ne L' f (by omega)]
  exact h j hj
theorem vD_same (L : LT) (t k : Nat) (x : Int64) : vD (upR L (100 + t) (vp_updL (L (100 + t)) k x)) t k = x := by
  show upR L (100 + t) (vp_updL (L (100 + t)) k x) (100 + t) k = x
  rw [upR_same, pk_uLs]
theorem vD_ne {L : LT} {t k u j : Nat} {x : Int64} (h : u ≠ t ∨ j ≠ k) : vD (upR L (100 + t) (vp_updL (L (100 + t)) k x)) u j = vD L u j := by
  show upR L (100 + t) (vp_updL (L (100 + t)) k x) (100 + u) j = L (100 + u) j
  by_cases e : u = t
  · subst e
    rw [upR_same, pk_uLn (h.resolve_left (fun z => z rfl))]
  · rw [upR_ne L _ (by omega)]
theorem vD_id {L : LT} {t k : Nat} {x : Int64} (h : x = L (100 + t) k) : upR L (100 + t) (vp_updL (L (100 + t)) k x) = L := by
  funext j i
  by_cases e : j = 100 + t
  · subst e
    rw [upR_same]
    by_cases e2 : i = k
    · subst e2; rw [pk_uLs, h]
    · rw [pk_uLn e2]
  · rw [upR_ne L _ e]
theorem g_CN_up {τ : Tb} {root k t : Nat} {L : LT} {x : Int64} (h : g_CN τ root k (vD L)) : g_CN τ root k (vD (upR L (100 + t) (vp_updL (L (100 + t)) k x))) := fun u hu j hj => by
  rw [vD_ne (Or.inr (by omega))]
  exact h u hu j hj
theorem lg_cmp0 {x y : Int64} : lg_cmp x y = 0 ↔ x = y := by
  unfold lg_cmp
  constructor
  · intro h
    split at h
    · exact absurd h (by decide)
    · split at h
      · rename_i h2; exact h2
      · exact absurd h (by decide)
  · rintro rfl
    simp [Int64.lt_irrefl]
/-- within pass p over the numbers of k letters: 'done' have been gone through; ch: something has changed -/
def g_PS (τ : Tb) (root : Nat) (m : Bool) (k p : Nat) (done : Nat → Prop) (ch : Bool) (v : Nat → Nat → Int64) : Prop :=
  g_CN τ root k v ∧ g_Ip τ root k p v ∧ (∀ t, t ∈ g_P τ root → done t → g_clk τ root t ≤ p → v t k = lN (g_c τ root t k)) ∧ (ch = false → ∀ t, t ∈ g_P τ root → done t → g_w64 τ root m v t k = v t k) ∧ (48 ≤ p → ch = false)
section GPS
variable {n : Nat} {τ : Tb} {root : Nat} {S : TS}
theorem g_PS_0 {m : Bool} {k p : Nat} {v : Nat → Nat → Int64} (h1 : g_CN τ root k v) (h2 : g_Ip τ root k p v) {done : Nat → Prop} (hd : ∀ t, t ∈ g_P τ root → ¬ done t) : g_PS τ root m k p done false v :=
  ⟨h1, h2, fun t ht h => absurd h (hd t ht), fun _ t ht h => absurd h (hd t ht), fun _ => rfl⟩
theorem g_PS_step (h : g_WF n τ) (hr : root < n) (hT : g_TY τ root S) {m : Bool} {k p u : Nat} {done done' : Nat → Prop} {ch ch' : Bool} {v v' : Nat → Nat → Int64} (hu : u ∈ g_P τ root) (hP : g_PS τ root m k p done ch v) (h1 : v' u k = g_w64 τ root m v u k) (h2 : ∀ t j, (t ≠ u ∨ j ≠ k) → v' t j = v t j) (hc : ch' = (ch || decide (g_w64 τ root m v u k ≠ v u k))) (hd : ∀ t, t ∈ g_P τ root → done' t → done t ∨ t = u) : g_PS τ root m k p done' ch' v' := by
  obtain ⟨p1, p2, p3, p4, p5⟩ := hP
  have fin : g_clk τ root u ≤ p → v' u k = lN (g_c τ root u k) := fun hcl => by rw [h1]; exact g_w64_clk h hr hT hu p1 p2 hcl
  refine ⟨fun t ht j hj => by rw [h2 t j (Or.inr (by omega))]; exact p1 t ht j hj, fun t ht hcl => ?_, fun t ht hdn hcl => ?_, fun hch t ht hdn => ?_, fun hp => ?_⟩
  · by_cases e : t = u
    · subst e; exact fin (by omega)
    · rw [h2 t k (Or.inl e)]; exact p2 t ht hcl
  · by_cases e : t = u
    · subst e; exact fin hcl
    · rw [h2 t k (Or.inl e)]; exact p3 t ht ((hd t ht hdn).resolve_right e) hcl
  · rw [hch] at hc
    have hc2 := hc.symm
    rw [Bool.or_eq_false_iff, decide_eq_false_iff_not, Decidable.not_not] at hc2
    have ev : v' = v := by
      funext t j
      by_cases e : t = u ∧ j = k
      · rw [e.1, e.2, h1, hc2.2]
      · exact h2 t j (by omega)
    rw [ev]
    rcases hd t ht hdn with z | z
    · exact p4 hc2.1 t ht z
    · rw [z]; exact hc2.2
  · rw [hc, p5 hp, Bool.false_or, decide_eq_false_iff_not, Decidable.not_not]
    have := g_clk_48 h hr hu
    rw [g_w64_clk h hr hT hu p1 p2 (by omega)]
    exact (p2 u hu (by omega)).symm
theorem g_PS_end (h : g_WF n τ) (hr : root < n) (hT : g_TY τ root S) {m : Bool} {k p : Nat} {done : Nat → Prop} {ch : Bool} {v : Nat → Nat → Int64} (hP : g_PS τ root m k p done ch v) (hd : ∀ t, t ∈ g_P τ root → done t) : g_CN τ root k v ∧ g_Ip τ root k (p + 1) v ∧ (ch = false → g_CN τ root (k + 1) v) ∧ (ch = true → p < 48) := by
  obtain ⟨p1, p2, p3, p4, p5⟩ := hP
  refine ⟨p1, fun t ht hcl => p3 t ht (hd t ht) (by omega), fun hch => g_w64_fix h hr hT p1 (fun t ht => p4 hch t ht (hd t ht)), fun hch => ?_⟩
  rcases Nat.lt_or_ge p 48 with z | z
  · exact z
  · rw [p5 z] at hch; cases hch
end GPS
section WK
variable {τ : Tb} {root : Nat} {m : Bool} {v : Nat → Nat → Int64} {t n : Nat}
theorem g_w0 (k : g_kd τ t = 0) : g_w64 τ root m v t n = if n = 0 then lN 1 else lN 0 := by unfold g_w64; rw [if_pos k]
theorem g_w2 (k : g_kd τ t = 2) : g_w64 τ root m v t n = if n = 1 then lN 1 else lN 0 := by unfold g_w64; rw [if_neg (by omega), if_pos k]
theorem g_w3 (k : g_kd τ t = 3) : g_w64 τ root m v t n = if m then s64 (fun k => v (g_lf τ t) (k + 1) * v (g_rt τ t) (n - (k + 1))) n else s64 (fun k => v (g_lf τ t) k * v (g_rt τ t) (n - k)) (n + 1) := by unfold g_w64; rw [if_neg (by omega), if_neg (by omega), if_pos k]
theorem g_w4 (k : g_kd τ t = 4) : g_w64 τ root m v t n = v (g_lf τ t) n + v (g_rt τ t) n := by unfold g_w64; rw [if_neg (by omega), if_neg (by omega), if_neg (by omega), if_pos k]
theorem g_w5 (k : g_kd τ t = 5) : g_w64 τ root m v t n = v ((g_B τ root (g_sg τ t) t).getD 0) n := by unfold g_w64; rw [if_neg (by omega), if_neg (by omega), if_neg (by omega), if_neg (by omega), if_pos k]
theorem g_w6 (k : g_kd τ t = 6) : g_w64 τ root m v t n = v (g_lf τ t) n := by unfold g_w64; rw [if_neg (by omega), if_neg (by omega), if_neg (by omega), if_neg (by omega), if_neg (by omega), if_pos k]
theorem g_w1 (k : g_kd τ t = 1) : g_w64 τ root m v t n = lN 0 := by unfold g_w64; rw [if_neg (by omega), if_neg (by omega), if_neg (by omega), if_neg (by omega), if_neg (by omega), if_neg (by omega)]
end WK
