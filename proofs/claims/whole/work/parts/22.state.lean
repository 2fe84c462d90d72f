/-! a new term; the state that both hold -/
def g_new (n : Nat) (τ : Tb) (k s : Nat) (cl : List Nat) (kn : Nat) : Tb := fun j t =>
  if t = n then (if j = 0 then k else if j = 1 then s else if j = 2 then cl.getD 0 0 else if j = 3 then cl.getD 1 0 else if j = 4 then 0 else if j = 5 then 0 else kn)
  else if t ∈ cl then (if j = 4 then n else if j = 5 then 1 else τ j t) else τ j t
/-- what may be made -/
def g_NC (n : Nat) (τ : Tb) (k s : Nat) (cl : List Nat) (kn : Nat) : Prop := n < 48 ∧ k ≤ 6 ∧ (k = 2 → s < 8) ∧ (k = 5 ∨ k = 6 → s < 4) ∧ (∀ c, c ∈ cl → c < n ∧ g_ip τ c ≠ 1) ∧ (k = 6 → ∃ a, cl = [a]) ∧ (k = 3 ∨ k = 4 → ∃ a b, a ≠ b ∧ cl = [a, b]) ∧ (k ≠ 3 → k ≠ 4 → k ≠ 6 → cl = []) ∧ kn ≤ 3
section GNW
variable {n : Nat} {τ : Tb} {k s kn : Nat} {cl : List Nat}
theorem g_new_n (j : Nat) : g_new n τ k s cl kn j n = (if j = 0 then k else if j = 1 then s else if j = 2 then cl.getD 0 0 else if j = 3 then cl.getD 1 0 else if j = 4 then 0 else if j = 5 then 0 else kn) := if_pos rfl
theorem g_new_o {j t : Nat} (h : t ≠ n) (hj : j ≠ 4) (hj5 : j ≠ 5) : g_new n τ k s cl kn j t = τ j t := by
  unfold g_new
  rw [if_neg h]
  by_cases hc : t ∈ cl
  · rw [if_pos hc, if_neg hj, if_neg hj5]
  · rw [if_neg hc]
theorem g_new_out {j t : Nat} (h : t ≠ n) (hc : t ∉ cl) : g_new n τ k s cl kn j t = τ j t := by
  unfold g_new
  rw [if_neg h, if_neg hc]
theorem g_new_in {t : Nat} (h : t ≠ n) (hc : t ∈ cl) : g_new n τ k s cl kn 4 t = n ∧ g_new n τ k s cl kn 5 t = 1 := by
  unfold g_new
  rw [if_neg h, if_pos hc, if_neg h, if_pos hc]
  exact ⟨rfl, rfl⟩
theorem g_new_ch (h : g_NC n τ k s cl kn) : g_ch (g_new n τ k s cl kn) n = cl := by
  obtain ⟨-, -, -, -, -, h6, h34, h0, -⟩ := h
  have e0 : g_kd (g_new n τ k s cl kn) n = k := g_new_n 0
  have e2 : g_lf (g_new n τ k s cl kn) n = cl.getD 0 0 := g_new_n 2
  have e3 : g_rt (g_new n τ k s cl kn) n = cl.getD 1 0 := g_new_n 3
  unfold g_ch
  rw [e0, e2, e3]
  by_cases k6 : k = 6
  · obtain ⟨a, rfl⟩ := h6 k6
    rw [if_pos k6]; rfl
  rw [if_neg k6]
  by_cases k3 : k = 3 ∨ k = 4
  · obtain ⟨a, b, -, rfl⟩ := h34 k3
    rw [if_pos k3]; rfl
  · rw [if_neg k3, h0 (by omega) (by omega) k6]
theorem g_new_cho {t : Nat} (h : t ≠ n) : g_ch (g_new n τ k s cl kn) t = g_ch τ t := by
  have e0 : g_kd (g_new n τ k s cl kn) t = g_kd τ t := g_new_o h (by decide) (by decide)
  have e2 : g_lf (g_new n τ k s cl kn) t = g_lf τ t := g_new_o h (by decide) (by decide)
  have e3 : g_rt (g_new n τ k s cl kn) t = g_rt τ t := g_new_o h (by decide) (by decide)
  unfold g_ch
  rw [e0, e2, e3]
theorem g_WF_new (hwf : g_WF n τ) (h : g_NC n τ k s cl kn) : g_WF (n + 1) (g_new n τ k s cl kn) := by
  have hch := g_new_ch h
  obtain ⟨hn, hk, h2, h56, hcl, h6, h34, h0, -⟩ := h
  refine ⟨by omega, fun t ht => ?_⟩
  by_cases e : t = n
  · subst e
    have e0 : g_kd (g_new t τ k s cl kn) t = k := g_new_n 0
    have e1 : g_sg (g_new t τ k s cl kn) t = s := g_new_n 1
    have e2 : g_lf (g_new t τ k s cl kn) t = cl.getD 0 0 := g_new_n 2
    have e3 : g_rt (g_new t τ k s cl kn) t = cl.getD 1 0 := g_new_n 3
    have e5 : g_ip (g_new t τ k s cl kn) t = 0 := g_new_n 5
    rw [e0, e1, e2, e3, e5, hch]
    refine ⟨hk, h2, h56, fun c hc => ?_, fun hk34 => ?_, fun z => by cases z⟩
    · have q := hcl c hc
      have q2 := g_new_in (n := t) (τ := τ) (k := k) (s := s) (kn := kn) (show c ≠ t by omega) hc
      exact ⟨q.1, q2.2, q2.1⟩
    · obtain ⟨a, b, hab, rfl⟩ := h34 hk34
      exact hab
  · have htn : t < n := by omega
    obtain ⟨w1, w2, w3, w4, w5, w6⟩ := hwf.2 t htn
    have e0 : g_kd (g_new n τ k s cl kn) t = g_kd τ t := g_new_o e (by decide) (by decide)
    have e1 : g_sg (g_new n τ k s cl kn) t = g_sg τ t := g_new_o e (by decide) (by decide)
    have e2 : g_lf (g_new n τ k s cl kn) t = g_lf τ t := g_new_o e (by decide) (by decide)
    have e3 : g_rt (g_new n τ k s cl kn) t = g_rt τ t := g_new_o e (by decide) (by decide)
    rw [e0, e1, e2, e3, g_new_cho e]
    refine ⟨w1, w2, w3, fun c hc => ?_, w5, fun hip => ?_⟩
    · obtain ⟨q1, q2, q3⟩ := w4 c hc
      have hcc : c ∉ cl := fun z => (hcl c z).2 q2
      have a4 : g_wh (g_new n τ k s cl kn) c = g_wh τ c := g_new_out (by omega) hcc
      have a5 : g_ip (g_new n τ k s cl kn) c = g_ip τ c := g_new_out (by omega) hcc
      rw [a4, a5]
      exact ⟨q1, q2, q3⟩
    · by_cases hc : t ∈ cl
      · have q := g_new_in (n := n) (τ := τ) (k := k) (s := s) (kn := kn) e hc
        have a4 : g_wh (g_new n τ k s cl kn) t = n := q.1
        rw [a4, hch]
        exact ⟨htn, by omega, hc⟩
      · have a4 : g_wh (g_new n τ k s cl kn) t = g_wh τ t := g_new_out e hc
        have a5 : g_ip (g_new n τ k s cl kn) t = g_ip τ t := g_new_out e hc
        rw [a5] at hip
        obtain ⟨q1, q2, q3⟩ := w6 hip
        rw [a4, g_new_cho (by omega)]
        exact ⟨q1, by omega, q3⟩
/-- the six rows of a new term -/
theorem g_E_new {K V A B W Q : Nat → Int32} {K' V' A' B' W' Q' : Nat → Int32} {v l r : Int32} (hE : g_E n τ K V A B W Q) (h : g_NC n τ k s cl kn) (hv : k = 2 ∨ k = 5 ∨ k = 6 → v = nI s) (hl : l = g_ox cl[0]?) (hr : r = g_ox cl[1]?)
    (eK : K' = upd K n (nI k)) (eV : V' = upd V n v) (eA : A' = upd A n l) (eB : B' = upd B n r) (eQ : Q' = upd Q n (nI kn)) (eW : ∀ t, t < n + 1 → W' t = if t = n then -1 else if t ∈ cl then nI n else W t) : g_E (n + 1) (g_new n τ k s cl kn) K' V' A' B' W' Q' := by
  obtain ⟨hn, hk, h2, h56, hcl, h6, h34, h0, hkn⟩ := h
  intro t ht
  rw [eK, eV, eA, eB, eQ, eW t ht]
  by_cases e : t = n
  · subst e
    have e0 : g_kd (g_new t τ k s cl kn) t = k := g_new_n 0
    have e1 : g_sg (g_new t τ k s cl kn) t = s := g_new_n 1
    have e2 : g_lf (g_new t τ k s cl kn) t = cl.getD 0 0 := g_new_n 2
    have e3 : g_rt (g_new t τ k s cl kn) t = cl.getD 1 0 := g_new_n 3
    have e5 : g_ip (g_new t τ k s cl kn) t = 0 := g_new_n 5
    have e6 : g_new t τ k s cl kn 6 t = kn := g_new_n 6
    rw [e0, e1, e2, e3, e5, e6, e_upd_same, e_upd_same, e_upd_same, e_upd_same, e_upd_same, if_pos rfl, if_neg (show ¬ (0 : Nat) = 1 by decide), hl, hr]
    refine ⟨rfl, hv, ?_, ?_, rfl, rfl, hkn⟩
    · by_cases k6 : k = 6
      · obtain ⟨a, rfl⟩ := h6 k6
        rw [if_pos (Or.inr (Or.inr k6))]; rfl
      by_cases k3 : k = 3 ∨ k = 4
      · obtain ⟨a, b, -, rfl⟩ := h34 k3
        rw [if_pos (k3.elim Or.inl (fun z => Or.inr (Or.inl z)))]; rfl
      · rw [if_neg (fun z => z.elim (fun z => k3 (Or.inl z)) (fun z => z.elim (fun z => k3 (Or.inr z)) k6)), h0 (by omega) (by omega) k6]; rfl
    · by_cases k3 : k = 3 ∨ k = 4
      · obtain ⟨a, b, -, rfl⟩ := h34 k3
        rw [if_pos k3]; rfl
      · rw [if_neg k3]
        by_cases k6 : k = 6
        · obtain ⟨a, rfl⟩ := h6 k6
          rfl
        · rw [h0 (by omega) (by omega) k6]; rfl
  · have htn : t < n := by omega
    have q := hE t htn
    have e0 : g_kd (g_new n τ k s cl kn) t = g_kd τ t := g_new_o e (by decide) (by decide)
    have e1 : g_sg (g_new n τ k s cl kn) t = g_sg τ t := g_new_o e (by decide) (by decide)
    have e2 : g_lf (g_new n τ k s cl kn) t = g_lf τ t := g_new_o e (by decide) (by decide)
    have e3 : g_rt (g_new n τ k s cl kn) t = g_rt τ t := g_new_o e (by decide) (by decide)
    have e6 : g_new n τ k s cl kn 6 t = τ 6 t := g_new_o e (by decide) (by decide)
    rw [e0, e1, e2, e3, e6, e_upd_ne _ _ e, e_upd_ne _ _ e, e_upd_ne _ _ e, e_upd_ne _ _ e, e_upd_ne _ _ e, if_neg e]
    refine ⟨q.1, q.2.1, q.2.2.1, q.2.2.2.1, ?_, q.2.2.2.2.2⟩
    by_cases hc : t ∈ cl
    · have q2 := g_new_in (n := n) (τ := τ) (k := k) (s := s) (kn := kn) e hc
      have a4 : g_wh (g_new n τ k s cl kn) t = n := q2.1
      have a5 : g_ip (g_new n τ k s cl kn) t = 1 := q2.2
      rw [if_pos hc, a4, a5, if_pos rfl]
    · have a4 : g_wh (g_new n τ k s cl kn) t = g_wh τ t := g_new_out e hc
      have a5 : g_ip (g_new n τ k s cl kn) t = g_ip τ t := g_new_out e hc
      rw [if_neg hc, a4, a5]
      exact q.2.2.2.2.1
end GNW
/-- the class's object: n terms τ, the word w, where the latest reading stopped, the steps tr -/
def g_SD (n : Nat) (τ : Tb) (w : List Nat) (st : Int32) (tr : List Nat) (Z : ZT) (L : LT) : Prop := g_WF n τ ∧ g_ED n τ Z ∧ Z 40 0 = nI n ∧ g_WD w (Z 42 0) (Z 22) ∧ Z 50 0 = st ∧ Z 47 0 = nI tr.length ∧ g_tr (L 27) tr ∧ tr.length ≤ 2200
theorem g_SD_fr {n : Nat} {τ : Tb} {w : List Nat} {st : Int32} {tr : List Nat} {ks : List Nat} {Z Z' : ZT} {L L' : LT} (h : g_SD n τ w st tr Z L) (hz : g_fr ks Z Z') (hk : ∀ k, k ∈ [9, 10, 11, 12, 13, 14, 22, 40, 42, 47, 50] → k ∉ ks) (hL : L' 27 = L 27) : g_SD n τ w st tr Z' L' := by
  obtain ⟨h1, h2, h3, h4, h5, h6, h7, h8⟩ := h
  refine ⟨h1, g_ED_fr hz (fun k q => hk k (by revert q; simp; omega)) h2, ?_, g_WD_fr hz (fun k q => hk k (by revert q; simp; omega)) h4, ?_, ?_, ?_, h8⟩
  · rw [hz 40 (hk 40 (by decide))]; exact h3
  · rw [hz 50 (hk 50 (by decide))]; exact h5
  · rw [hz 47 (hk 47 (by decide))]; exact h6
  · rw [hL]; exact h7
/-- the numbers of terms -/
theorem g_ix (x : Int32) (n : Nat) (hn : n ≤ 48) : (∃ t, t < n ∧ x = nI t) ∨ ((¬ ∃ t, t < n ∧ x = nI t) ∧ (x < 0 ∨ nI n ≤ x)) := by
  rcases pk_ix x (n := n) (by omega) with h | h | ⟨j, hj, e⟩
  · refine Or.inr ⟨fun ⟨t, ht, e⟩ => ?_, Or.inl h⟩
    subst e
    exact nI_pos (by omega) h
  · refine Or.inr ⟨fun ⟨t, ht, e⟩ => ?_, Or.inr h⟩
    subst e
    rw [nI_leI (by omega) (by omega)] at h
    omega
  · exact Or.inl ⟨j, hj, e⟩
