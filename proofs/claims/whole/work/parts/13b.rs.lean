/-! frames on rows of longs; what frames keep; the reader's state -/
def g_fl (ks : List Nat) (L L' : LT) : Prop := ∀ k, k ∉ ks → L' k = L k
theorem g_fl_rfl {ks : List Nat} {L : LT} : g_fl ks L L := fun _ _ => rfl
theorem g_fl_up {ks : List Nat} {L L' : LT} (h : g_fl ks L L') {k : Nat} (hk : k ∈ ks) (f : Nat → Int64) : g_fl ks L (upR L' k f) := fun j hj => by
  have e : j ≠ k := fun e => hj (by rw [e]; exact hk)
  rw [upR_ne L' f e]
  exact h j hj
theorem g_fl_trans {ks : List Nat} {L L' L'' : LT} (h : g_fl ks L L') (h2 : g_fl ks L' L'') : g_fl ks L L'' := fun j hj => (h2 j hj).trans (h j hj)
theorem g_fl_sub {ks ks' : List Nat} {L L' : LT} (h : g_fl ks L L') (hs : ∀ k, k ∈ ks → k ∈ ks') : g_fl ks' L L' := fun j hj => h j (fun q => hj (hs j q))
theorem g_WD_fr {w : List Nat} {ks : List Nat} {Z Z' : ZT} (h : g_fr ks Z Z') (hk : ∀ k, k ∈ [22, 42] → k ∉ ks) (hW : g_WD w (Z 42 0) (Z 22)) : g_WD w (Z' 42 0) (Z' 22) := by
  rw [h 22 (hk 22 (by decide)), h 42 (hk 42 (by decide))]
  exact hW
theorem g_YD_fr {τ : Tb} {root : Nat} {S : TS} {ks : List Nat} {Z Z' : ZT} (h : g_fr ks Z Z') (hk : ∀ k, k ∈ [19, 20, 21] → k ∉ ks) (hE : g_YD τ root S Z) : g_YD τ root S Z' := by
  unfold g_YD
  rw [h 19 (hk 19 (by decide)), h 20 (hk 20 (by decide)), h 21 (hk 21 (by decide))]
  exact hE
theorem g_BD_fr' {τ : Tb} {root : Nat} {ks : List Nat} {Z Z' : ZT} (h : g_fr ks Z Z') (hk : ∀ k, k ∈ [17, 18] → k ∉ ks) (hE : g_BD τ root Z) : g_BD τ root Z' := by
  unfold g_BD
  rw [h 17 (hk 17 (by decide)), h 18 (hk 18 (by decide))]
  exact hE
theorem g_EO_fr' {τ : Tb} {root : Nat} {ks : List Nat} {Z Z' : ZT} (h : g_fr ks Z Z') (hk : ∀ k, k ∈ [15, 41] → k ∉ ks) (hE : g_EO τ root Z) : g_EO τ root Z' := by
  unfold g_EO
  rw [h 15 (hk 15 (by decide)), h 41 (hk 41 (by decide))]
  exact hE
theorem g_ST_fr {τ : Tb} {root : Nat} {ks : List Nat} {Z Z' : ZT} (h : g_fr ks Z Z') (hk : ∀ k, k ∈ [15, 17, 18, 19, 20, 21, 41] → k ∉ ks) (hE : g_ST τ root Z) : g_ST τ root Z' :=
  ⟨g_EO_fr' h (fun k q => hk k (by revert q; simp; omega)) hE.1, g_BD_fr' h (fun k q => hk k (by revert q; simp; omega)) hE.2.1, hE.2.2.1, g_YD_fr h (fun k q => hk k (by revert q; simp; omega)) hE.2.2.2⟩
theorem g_WD_at {w : List Nat} {s : Int32} {f : Nat → Int32} (h : g_WD w s f) {p : Nat} (hp : p < w.length) : f p = nI (g_nx w p) ∧ g_nx w p < 8 := by
  have e : g_nx w p = w[p] := by simp [g_nx, hp]
  have q := h.2.2.1 p hp
  rw [Nat.zero_add] at q
  rw [e]
  exact ⟨q, h.2.2.2 _ (List.getElem_mem hp)⟩
theorem g_nx_out {w : List Nat} {p : Nat} (hp : w.length ≤ p) : g_nx w p = 8 := by
  simp [g_nx, hp]
/-- the reader's pile σ, its place p, and its steps l -/
def g_RS (Z : ZT) (L : LT) (σ : List Nat) (p : Nat) (l : List Nat) : Prop := Z 43 0 = nI σ.length ∧ g_ar (Z 23) 0 σ.reverse ∧ Z 44 0 = nI p ∧ Z 46 0 = nI l.length ∧ g_tr (L 26) l
theorem g_RS_push {Z : ZT} {L : LT} {σ : List Nat} {p : Nat} {l : List Nat} (h : g_RS Z L σ p l) (t : Nat) : g_RS (upR (upR Z 23 (upd (Z 23) σ.length (nI t))) 43 (fun _ => nI (σ.length + 1))) L (t :: σ) p l := by
  obtain ⟨h1, h2, h3, h4, h5⟩ := h
  refine ⟨by rw [List.length_cons]; rfl, ?_, h3, h4, h5⟩
  rw [List.reverse_cons]
  exact g_ar_push h2 (by simp)
theorem g_cho3 (τ : Tb) (S : TS) (x t : Nat) : g_cho τ S x t = 0 ∨ g_cho τ S x t = 1 ∨ g_cho τ S x t = 2 := by
  unfold g_cho
  repeat' split
  all_goals omega
theorem g_bit_y {a x y : Nat} (ha : a < 256) (hy : y = if x < 8 then 2 ^ x else 0) : (¬ a &&& y = 0) ↔ a.testBit x = true := by
  by_cases hx : x < 8
  · rw [if_pos hx] at hy
    rw [hy, e_bit]
    simp
  · rw [if_neg hx] at hy
    have : a.testBit x = false := Nat.testBit_lt_two_pow (Nat.lt_of_lt_of_le ha (by have : 2 ^ 8 ≤ 2 ^ x := Nat.pow_le_pow_right (by decide) (by omega); simpa using this))
    rw [hy, this]
    simp
/-- the answer of side() -/
theorem g_side {τ : Tb} {S : TS} {x t y : Nat} (h1 : g_fi S (g_lf τ t) < 256) (h2 : g_fi S (g_rt τ t) < 256) (hy : y = if x < 8 then 2 ^ x else 0) : (if ¬ g_fi S (g_lf τ t) &&& y = 0 then 0 else if ¬ g_fi S (g_rt τ t) &&& y = 0 then 1 else if g_nu S (g_lf τ t) = true then 0 else if g_nu S (g_rt τ t) = true then 1 else -1 : Int32) = if g_cho τ S x t = 2 then -1 else nI (g_cho τ S x t) := by
  have q1 := g_bit_y h1 hy
  have q2 := g_bit_y h2 hy
  unfold g_cho
  by_cases b1 : (g_fi S (g_lf τ t)).testBit x = true
  · rw [if_pos (q1.mpr b1), if_pos b1]; rfl
  rw [if_neg (fun z => b1 (q1.mp z)), if_neg b1]
  by_cases b2 : (g_fi S (g_rt τ t)).testBit x = true
  · rw [if_pos (q2.mpr b2), if_pos b2]; rfl
  rw [if_neg (fun z => b2 (q2.mp z)), if_neg b2]
  by_cases b3 : g_nu S (g_lf τ t) = true
  · rw [if_pos b3, if_pos b3]; rfl
  rw [if_neg b3, if_neg b3]
  by_cases b4 : g_nu S (g_rt τ t) = true
  · rw [if_pos b4, if_pos b4]; rfl
  · rw [if_neg b4, if_neg b4]; rfl
/-! a visit, kind by kind -/
section SK
variable {τ : Tb} {root : Nat} {S : TS} {x t : Nat} {σ : List Nat}
theorem g_st0 (k : g_kd τ t = 0) : g_st τ root S x t σ = (0, σ) := by unfold g_st; rw [if_pos k]
theorem g_st2 (k : g_kd τ t = 2) : g_st τ root S x t σ = (if g_sg τ t = x then 1 else 2, σ) := by unfold g_st; rw [if_neg (by omega), if_pos k]
theorem g_st3 (k : g_kd τ t = 3) : g_st τ root S x t σ = (0, g_lf τ t :: g_rt τ t :: σ) := by unfold g_st; rw [if_neg (by omega), if_neg (by omega), if_pos k]
theorem g_st4 (k : g_kd τ t = 4) : g_st τ root S x t σ = if g_cho τ S x t = 2 then (2, σ) else if g_cho τ S x t = 0 then (0, g_lf τ t :: σ) else (0, g_rt τ t :: σ) := by unfold g_st; rw [if_neg (by omega), if_neg (by omega), if_neg (by omega), if_pos k]
theorem g_st5 (k : g_kd τ t = 5) : g_st τ root S x t σ = (0, (g_B τ root (g_sg τ t) t).getD 0 :: σ) := by unfold g_st; rw [if_neg (by omega), if_neg (by omega), if_neg (by omega), if_neg (by omega), if_pos k]
theorem g_st6 (k : g_kd τ t = 6) : g_st τ root S x t σ = (0, g_lf τ t :: σ) := by unfold g_st; rw [if_neg (by omega), if_neg (by omega), if_neg (by omega), if_neg (by omega), if_neg (by omega), if_pos k]
theorem g_st1 (k : g_kd τ t = 1) : g_st τ root S x t σ = (2, σ) := by unfold g_st; rw [if_neg (by omega), if_neg (by omega), if_neg (by omega), if_neg (by omega), if_neg (by omega), if_neg (by omega)]
end SK
/-- what a visit makes of the reader's state -/
def g_vi (τ : Tb) (root : Nat) (S : TS) (x t : Nat) (σ : List Nat) (p : Nat) (l : List Nat) (r : Int32) (Z' : ZT) (L' : LT) : Prop :=
  r = b2 (decide ((g_st τ root S x t σ).1 ≠ 2)) ∧ ((g_st τ root S x t σ).1 = 0 → g_RS Z' L' (g_st τ root S x t σ).2 p (if g_kd τ t = 4 then l ++ [g_cho τ S x t] else l)) ∧
  ((g_st τ root S x t σ).1 = 1 → g_RS Z' L' (g_st τ root S x t σ).2 (p + 1) l) ∧ ((g_st τ root S x t σ).1 = 2 → Z' 44 0 = nI p)
section VI
variable {τ : Tb} {root : Nat} {S : TS} {x t : Nat} {σ σ' : List Nat} {p : Nat} {l : List Nat} {Z' : ZT} {L' : LT}
theorem g_vi_0 (h : g_st τ root S x t σ = (0, σ')) (hk : ¬ g_kd τ t = 4) (hR : g_RS Z' L' σ' p l) : g_vi τ root S x t σ p l (nI 1) Z' L' := by
  unfold g_vi
  rw [h, if_neg hk]
  exact ⟨rfl, fun _ => hR, fun z => (by cases z), fun z => (by cases z)⟩
theorem g_vi_4 (h : g_st τ root S x t σ = (0, σ')) (hk : g_kd τ t = 4) (hR : g_RS Z' L' σ' p (l ++ [g_cho τ S x t])) : g_vi τ root S x t σ p l (nI 1) Z' L' := by
  unfold g_vi
  rw [h, if_pos hk]
  exact ⟨rfl, fun _ => hR, fun z => (by cases z), fun z => (by cases z)⟩
theorem g_vi_1 (h : g_st τ root S x t σ = (1, σ')) (hR : g_RS Z' L' σ' (p + 1) l) : g_vi τ root S x t σ p l (nI 1) Z' L' := by
  unfold g_vi
  rw [h]
  exact ⟨rfl, fun z => (by cases z), fun _ => hR, fun z => (by cases z)⟩
theorem g_vi_2 (h : g_st τ root S x t σ = (2, σ')) (hR : Z' 44 0 = nI p) : g_vi τ root S x t σ p l (nI 0) Z' L' := by
  unfold g_vi
  rw [h]
  exact ⟨rfl, fun z => (by cases z), fun z => (by cases z), fun _ => hR⟩
end VI
