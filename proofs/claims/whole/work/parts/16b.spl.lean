/-! spelling, pure; and a row for System.arraycopy of longs -/
theorem j_copyl {D : va_G} {κ : Kx} {cc : ByteArray} {own : String} {Ts : List Cond} {tys : List (ClassId × FieldType)} {cells slots : Nat} {lv : List (Nat × Value)} {st : List Value} {ws ws' : va_W} (C : Cx D κ cc own Ts tys) (pc : Nat) {index : Nat} (hlink : (Cond.methodLink own index arraycopyName).before (ja κ) (js κ) = true) (hnat : (Cond.native arraycopyName).before (ja κ) (js κ) = true) (hstat : (Cond.static arraycopyName).before (ja κ) (js κ) = true) (hini : (Cond.initialized "java/lang/System").before (ja κ) (js κ) = true)
    (q0 q1 t0 : Nat) {a0 a1 : Nat} {c0 : ClassId} {n0 n1 : Nat} {f g : Nat → Int64} (ha0 : ws[q0]? = some (a0, .inl (c0, n0, .inr (.inl f)))) (ha1 : ws[q1]? = some (a1, .inl (c0, n1, .inr (.inl g)))) (ht0 : tys[t0]? = some (c0, .long)) {sp dp n : Nat} (hsp : sp < 2 ^ 31) (hdp : dp < 2 ^ 31) (hn : n < 2 ^ 31) (h4 : sp + n ≤ n0) (h5 : dp + n ≤ n1)
    (hR : 1 ≤ (jR κ).frames ∧ (st.map fun v => v.category).sum + (nativeFrameWords "java/lang/System" "arraycopy" 5 + 11) ≤ (jR κ).locals) (hd : decode cc pc = .ok (.invokestatic index, 3)) (hw : ws.set q1 (a1, .inl (c0, n1, .inr (.inl (va_cpy f g sp dp n)))) = ws') (k : J D κ cells slots (pc + 3) lv st ws') : J D κ cells slots pc lv (.int (nI n) :: .int (nI dp) :: .ref a1 :: .int (nI sp) :: .ref a0 :: st) ws := by
  intro H locs ls h hP hD hS
  have e1 := nI_clamp hsp
  have e2 := nI_clamp hdp
  have e3 := nI_clamp hn
  subst hw
  refine va_copyl C.x C.b (C.n.trans h.1.symm) C.o hlink hnat hstat hini C.k hP hD hS q0 q1 t0 t0 ha0 ha1 ht0 ht0 rfl (nI_pos hsp) (nI_pos hdp) (nI_pos hn) (by rw [e1, e3]; exact h4) (by rw [e2, e3]; exact h5) (fun _ _ => rfl) hR.1 hR.2 hd (fun H1 locs1 hP1 hD1 hS1 => ?_)
  rw [e1, e2, e3] at hP1 hD1
  exact k H1 locs1 ls h hP1 hD1 hS1
/-- where the way down to the letter x goes on -/
def g_bl (τ : Tb) (root : Nat) (S : TS) (x t : Nat) : Nat := if g_kd τ t = 5 then (g_B τ root (g_sg τ t) t).getD 0 else if g_kd τ t = 4 ∧ g_cho τ S x t = 1 then g_rt τ t else g_lf τ t
section GB2
variable {n : Nat} {τ : Tb} {root : Nat} {S : TS}
theorem g_pth_2 {x r t : Nat} (hk : g_kd τ t = 2) : g_pth τ root S x (r + 1) t = [] := by
  unfold g_pth
  rw [if_neg (by omega), if_neg (by omega), if_neg (by omega), if_neg (by omega)]
theorem g_bl_spec (h : g_WF n τ) (hr : root < n) (hT : g_TY τ root S) {x t : Nat} (ht : t ∈ g_P τ root) (hf : (g_fi S t).testBit x = true) (hk : g_kd τ t ≠ 2) :
    g_bl τ root S x t ∈ g_P τ root ∧ g_rk τ root (g_bl τ root S x t) < g_rk τ root t ∧ (g_fi S (g_bl τ root S x t)).testBit x = true ∧ (g_kd τ t = 3 ∨ g_kd τ t = 4 ∨ g_kd τ t = 5 ∨ g_kd τ t = 6) ∧ ∀ r, g_pth τ root S x (r + 1) t = (if g_kd τ t = 3 then [g_rt τ t] else []) ++ g_pth τ root S x r (g_bl τ root S x t) := by
  have P0 : ∀ {r : Nat}, g_pth τ root S x (r + 1) t = if g_kd τ t = 3 then g_rt τ t :: g_pth τ root S x r (g_lf τ t) else if g_kd τ t = 4 then (if g_cho τ S x t = 1 then g_pth τ root S x r (g_rt τ t) else g_pth τ root S x r (g_lf τ t)) else if g_kd τ t = 5 then g_pth τ root S x r ((g_B τ root (g_sg τ t) t).getD 0) else if g_kd τ t = 6 then g_pth τ root S x r (g_lf τ t) else [] := rfl
  by_cases k0 : g_kd τ t = 0
  · rw [show g_fi S t = 0 by show (S t).2.1 = 0; rw [g_F0 hT ht k0]] at hf; simp at hf
  by_cases k3 : g_kd τ t = 3
  · have a := g_lfP h hr ht (by omega)
    have e : g_bl τ root S x t = g_lf τ t := by unfold g_bl; rw [if_neg (by omega), if_neg (by omega)]
    rw [e]
    refine ⟨a.1, (g_rk_lf h hr ht (by omega)).2, by rw [← (g_F3 hT ht k3).2.1]; exact hf, Or.inl k3, fun r => ?_⟩
    rw [P0, if_pos k3, if_pos k3]; rfl
  by_cases k4 : g_kd τ t = 4
  · rcases g_cho3 τ S x t with hc | hc | hc
    · have a := g_lfP h hr ht (by omega)
      have e : g_bl τ root S x t = g_lf τ t := by unfold g_bl; rw [if_neg (by omega), if_neg (by omega)]
      rw [e]
      refine ⟨a.1, (g_rk_lf h hr ht (by omega)).2, (g_cho_first hT ht k4 (Or.inl ⟨rfl, hc⟩)).1 hf, Or.inr (Or.inl k4), fun r => ?_⟩
      rw [P0, if_neg k3, if_neg k3, if_pos k4, if_neg (by omega)]; rfl
    · have a := g_rtP h hr ht (by omega)
      have e : g_bl τ root S x t = g_rt τ t := by unfold g_bl; rw [if_neg (by omega), if_pos ⟨k4, hc⟩]
      rw [e]
      refine ⟨a.1, (g_rk_rt h hr ht k4).2, (g_cho_first hT ht k4 (Or.inr ⟨rfl, hc⟩)).1 hf, Or.inr (Or.inl k4), fun r => ?_⟩
      rw [P0, if_neg k3, if_neg k3, if_pos k4, if_pos hc]; rfl
    · exfalso
      obtain ⟨e1, e2, -⟩ := g_F4 hT ht k4
      rw [e2, Nat.testBit_or] at hf
      unfold g_cho at hc
      revert hc hf
      cases (g_fi S (g_lf τ t)).testBit x <;> cases (g_fi S (g_rt τ t)).testBit x <;> cases g_nu S (g_lf τ t) <;> cases g_nu S (g_rt τ t) <;> simp
  by_cases k5 : g_kd τ t = 5
  · obtain ⟨d, h1, h2⟩ := g_F5 hT ht k5
    have q := g_rk_var h hr hT ht k5 h1
    have e : g_bl τ root S x t = d := by unfold g_bl; rw [if_pos k5, h1]; rfl
    rw [e]
    refine ⟨q.1, q.2.2, by show (S d).2.1.testBit x = true; rw [← h2]; exact hf, Or.inr (Or.inr (Or.inl k5)), fun r => ?_⟩
    rw [P0, if_neg k3, if_neg k3, if_neg k4, if_pos k5, h1]; rfl
  by_cases k6 : g_kd τ t = 6
  · have a := g_lfP h hr ht (by omega)
    have e : g_bl τ root S x t = g_lf τ t := by unfold g_bl; rw [if_neg (by omega), if_neg (by omega)]
    rw [e]
    refine ⟨a.1, (g_rk_lf h hr ht (by omega)).2, by show (S (g_lf τ t)).2.1.testBit x = true; rw [← g_F6 hT ht k6]; exact hf, Or.inr (Or.inr (Or.inr k6)), fun r => ?_⟩
    rw [P0, if_neg k3, if_neg k3, if_neg k4, if_neg k5, if_pos k6]; rfl
  · rw [show g_fi S t = 0 by show (S t).2.1 = 0; rw [g_F1 hT ht (by omega)]] at hf; simp at hf
theorem g_V_len (h : g_WF n τ) (hr : root < n) {V : List Nat} (hn : V.Nodup) (hs : ∀ u, u ∈ V → u ∈ g_P τ root) : V.length ≤ 48 ∧ g_ls (g_pr τ) V ≤ 23 := by
  have h48 := h.1
  have a := g_nodup_len (N := 48) hn (fun u hu => by have := g_P_lt h hr (hs u hu); omega)
  have b := g_ls_sub (g_pr τ) hn hs
  have c := g_pairs h hr root (g_P_self h hr)
  have d := g_P_len h hr
  unfold g_sz at c
  omega
/-- a whole run to a letter -/
theorem g_I_run (h : g_WF n τ) (hr : root < n) (hT : g_TY τ root S) (x : Nat) : ∀ σ, (∀ u, u ∈ σ → u ∈ g_P τ root) → ∀ g v, g_I τ root S σ g v → (g_run τ root S x σ).1 = 1 → (∃ v', g_I τ root S (g_run τ root S x σ).2 (g + 1) v') ∧ (g_run τ root S x σ).2.length ≤ 23 * (g + 1) := by
  refine g_run_ind h hr hT x (P := fun σ => ∀ g v, g_I τ root S σ g v → (g_run τ root S x σ).1 = 1 → (∃ v', g_I τ root S (g_run τ root S x σ).2 (g + 1) v') ∧ (g_run τ root S x σ).2.length ≤ 23 * (g + 1)) (fun g v _ z => by rw [g_run_nil] at z; cases z) ?_
  intro t σ hσ ih g v hI h1
  rw [g_run_cons h hr hT x hσ] at h1 ⊢
  by_cases h0 : (g_st τ root S x t σ).1 = 0
  · rw [if_pos h0] at h1 ⊢
    exact ih h0 g (v + 1) (g_I_st h hr hT x hI h0) h1
  · rw [if_neg h0] at h1 ⊢
    have q := g_I_let h hr hT x hI h1
    have b := g_I_le h hr hI
    have e : (g_st τ root S x t σ).2 = σ := by
      revert h1
      have ht := hσ t (by simp)
      refine g_st_cases h hr hT x ht σ (P := fun q => q.1 = 1 → q.2 = σ) ?_ ?_ ?_ ?_ ?_ ?_ ?_
      · intro _ _ z; cases z
      · intro _ _ z; cases z
      · intro _ e _; rfl
      · intro _ _ _ _ z; cases z
      · intro _ _ _ _ _ z; cases z
      · intro _ _ z; cases z
      · intro _ _ _ _ _ z; cases z
    refine ⟨⟨v + 1, q⟩, ?_⟩
    rw [e]
    have : (t :: σ).length = σ.length + 1 := rfl
    omega
end GB2
/-- the first letter under which a number comes, and what is left of it -/
def g_pk (f : Nat → Nat) : Nat → Nat → Nat → Nat × Nat
  | 0, x, l => (x, l)
  | k + 1, x, l => if l < f x then (x, l) else g_pk f k (x + 1) (l - f x)
theorem g_pk_spec {f : Nat → Nat} : ∀ (k x l : Nat), l < g_sp (fun y => f (x + y)) k → (g_pk f k x l).1 < x + k ∧ (g_pk f k x l).2 < f (g_pk f k x l).1
  | 0, x, l, h => by exact absurd h (Nat.not_lt_zero _)
  | k + 1, x, l, h => by
    rw [g_sp_head] at h
    unfold g_pk
    by_cases e : l < f x
    · rw [if_pos e]; exact ⟨by show x < _; omega, e⟩
    · rw [if_neg e]
      have h2 : l - f x < g_sp (fun y => f (x + 1 + y)) k := by
        have e2 : g_tl (fun y => f (x + y)) = fun y => f (x + 1 + y) := by
          funext y
          show f (x + (y + 1)) = f (x + 1 + y)
          rw [show x + (y + 1) = x + 1 + y by omega]
        rw [e2, Nat.add_zero] at h
        omega
      have q := g_pk_spec k (x + 1) (l - f x) h2
      exact ⟨by omega, q.2⟩
/-- the word of n letters with a number -/
def g_sw (τ : Tb) (root : Nat) (S : TS) : Nat → List Nat → Nat → List Nat
  | 0, _, _ => []
  | k + 1, σ, l => (g_pk (fun x => g_Nx τ root S x σ k) 8 0 l).1 :: g_sw τ root S k (g_run τ root S (g_pk (fun x => g_Nx τ root S x σ k) 8 0 l).1 σ).2 (g_pk (fun x => g_Nx τ root S x σ k) 8 0 l).2
section GSW
variable {n : Nat} {τ : Tb} {root : Nat} {S : TS}
theorem g_pk_ok (h : g_WF n τ) (hr : root < n) (hT : g_TY τ root S) {σ : List Nat} {k l : Nat} (hσ : ∀ u, u ∈ σ → u ∈ g_P τ root) (hs : g_sep S σ) (hl : l < g_N τ root σ (k + 1)) :
    (g_pk (fun x => g_Nx τ root S x σ k) 8 0 l).1 < 8 ∧ (g_run τ root S (g_pk (fun x => g_Nx τ root S x σ k) 8 0 l).1 σ).1 = 1 ∧ (g_pk (fun x => g_Nx τ root S x σ k) 8 0 l).2 < g_N τ root (g_run τ root S (g_pk (fun x => g_Nx τ root S x σ k) 8 0 l).1 σ).2 k := by
  rw [g_cons h hr hT _ σ hσ hs (Nat.le_refl _) k] at hl
  have q := g_pk_spec (f := fun x => g_Nx τ root S x σ k) 8 0 l (by simpa using hl)
  generalize g_pk (fun x => g_Nx τ root S x σ k) 8 0 l = p at q ⊢
  have q2 : p.2 < g_Nx τ root S p.1 σ k := q.2
  unfold g_Nx at q2
  split at q2
  · rename_i h1
    exact ⟨by omega, h1, q2⟩
  · omega
theorem g_sw_len : ∀ (k : Nat) (σ : List Nat) (l : Nat), (g_sw τ root S k σ l).length = k
  | 0, _, _ => rfl
  | k + 1, σ, l => by
    show (g_sw τ root S k _ _).length + 1 = k + 1
    rw [g_sw_len k]
theorem g_N_small (h : g_WF n τ) (hr : root < n) (hT : g_TY τ root S) {σ : List Nat} {k : Nat} (hσ : ∀ u, u ∈ σ → u ∈ g_P τ root) (hs : g_sep S σ) (hk : k ≤ 16) : g_N τ root σ k < 2 ^ 63 := by
  have a := g_N_le h hr hT k σ hσ hs
  have b : 8 ^ k ≤ 8 ^ 16 := Nat.pow_le_pow_right (by decide) hk
  omega
end GSW
/-- the pile's numbers: in how many ways what lies below each height has each length up to r -/
def g_WY (τ : Tb) (root : Nat) (π : List Nat) (r : Nat) (W : Nat → Int64) : Prop := ∀ h, h ≤ π.length → ∀ j, j ≤ r → W (h * 17 + j) = lN (g_N τ root (π.take h).reverse j)
theorem g_WY_le {τ : Tb} {root : Nat} {π : List Nat} {r r' : Nat} {W : Nat → Int64} (h : g_WY τ root π r W) (hr : r' ≤ r) : g_WY τ root π r' W := fun i hi j hj => h i hi j (by omega)
theorem g_WY_take {τ : Tb} {root : Nat} {π : List Nat} {r a : Nat} {W : Nat → Int64} (h : g_WY τ root π r W) (ha : a ≤ π.length) : g_WY τ root (π.take a) r W := fun i hi j hj => by
  rw [List.length_take] at hi
  rw [List.take_take, Nat.min_eq_left (by omega)]
  exact h i (by omega) j hj
/-- the sums of lengthen() are the numbers of the longer row -/
theorem g_len_cv {τ : Tb} {root t m : Nat} {σ : List Nat} {R c : Nat → Int64} (hR : ∀ j, j ≤ m → R j = lN (g_N τ root σ j)) (hc : ∀ j, j ≤ m → c j = lN (g_c τ root t j)) {j : Nat} (hj : j ≤ m) : s64 (fun b => R (j - b) * c b) (j + 1) = lN (g_N τ root (t :: σ) j) := by
  rw [g_N_cv, g_cv_comm, g_cv_sp]
  apply s64_lN
  intro b hb
  show R (j - b) * c b = lN (g_c τ root t b * g_N τ root σ (j - b))
  rw [hR (j - b) (by omega), hc b (by omega), lN_mul, Nat.mul_comm]
theorem g_WY_push {τ : Tb} {root t r : Nat} {π : List Nat} {W f : Nat → Int64} {c : Nat → Int64} (hr : r ≤ 16) (h : g_WY τ root π r W) (hc : ∀ j, j ≤ r → c j = lN (g_c τ root t j))
    (hf : ∀ j, f j = if (π.length + 1) * 17 ≤ j ∧ j ≤ (π.length + 1) * 17 + r then s64 (fun b => va_cpy W W (π.length * 17) ((π.length + 1) * 17) (r + 1) (j - b) * c b) (j - (π.length + 1) * 17 + 1) else va_cpy W W (π.length * 17) ((π.length + 1) * 17) (r + 1) j) : g_WY τ root (π ++ [t]) r f := by
  intro h' hh j hj
  rw [List.length_append, List.length_singleton] at hh
  by_cases e : h' = π.length + 1
  · subst e
    have e1 : (π ++ [t]).take (π.length + 1) = π ++ [t] := List.take_of_length_le (by simp)
    rw [e1, List.reverse_append, hf, if_pos ⟨by omega, by omega⟩]
    have e2 : (π.length + 1) * 17 + j - (π.length + 1) * 17 = j := by omega
    rw [e2]
    show _ = lN (g_N τ root (t :: π.reverse) j)
    rw [← g_len_cv (m := r) (R := fun i => W (π.length * 17 + i)) (fun i hi => by rw [h π.length (Nat.le_refl _) i hi, List.take_length]) hc hj]
    apply s64_congr
    intro b hb
    show va_cpy W W _ _ _ ((π.length + 1) * 17 + j - b) * c b = W (π.length * 17 + (j - b)) * c b
    rw [pk_cpy_in (by omega) (by omega), show π.length * 17 + ((π.length + 1) * 17 + j - b - (π.length + 1) * 17) = π.length * 17 + (j - b) by omega]
  · have hle : h' ≤ π.length := by omega
    rw [hf, if_neg (by omega), pk_cpy_out (Or.inl (by omega)), List.take_append_of_le_length hle]
    exact h h' hle j hj
