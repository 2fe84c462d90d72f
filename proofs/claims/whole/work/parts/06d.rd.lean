/-! a whole reading: the next letter (8: none), and how it goes on -/
def g_nx (w : List Nat) (p : Nat) : Nat := w.getD p 8
def g_rd (τ : Tb) (root : Nat) (S : TS) (w : List Nat) : Nat → List Nat → Nat → Nat → List Nat → Bool × Nat × Nat × List Nat
  | 0, _, p, v, l => (false, p, v, l)
  | _ + 1, [], p, v, l => (true, p, v, l)
  | f + 1, t :: σ, p, v, l =>
    if (g_st τ root S (g_nx w p) t σ).1 = 2 then (false, p, v, l)
    else if (g_st τ root S (g_nx w p) t σ).1 = 1 then g_rd τ root S w f (g_st τ root S (g_nx w p) t σ).2 (p + 1) (v + 1) l
    else g_rd τ root S w f (g_st τ root S (g_nx w p) t σ).2 p (v + 1) (if g_kd τ t = 4 then l ++ [g_cho τ S (g_nx w p) t] else l)
noncomputable def g_RD (τ : Tb) (root : Nat) (w : List Nat) : Bool × Nat × Nat × List Nat := g_rd τ root (g_T τ root) w 2200 [root] 0 0 []
/-- a word in a row -/
def g_WD (w : List Nat) (s : Int32) (f : Nat → Int32) : Prop := w.length ≤ 40 ∧ s = nI w.length ∧ g_ar f 0 w ∧ ∀ u, u ∈ w → u < 8
/-- steps as bits -/
def g_bt (x : Int64) (j : Nat) : Bool := x.toBitVec.getLsbD j
def g_tr (f : Nat → Int64) (l : List Nat) : Prop := ∀ j (h : j < l.length), l[j] = if g_bt (f (j / 64)) (j % 64) then 1 else 0
theorem g_sh : ∀ j, j < 64 → ((1 : Int64) <<< ((nI j).toInt64 &&& 63)).toBitVec = BitVec.twoPow 64 j := by decide
theorem g_su : ∀ j, j < 64 → ((nI j).toInt64.toUInt64 &&& Int64.toUInt64 63).toNat = j := by decide
theorem g_bt_or {x m : Int64} {j i : Nat} (hm : m.toBitVec = BitVec.twoPow 64 j) (hj : j < 64) : g_bt (x ||| m) i = (g_bt x i || decide (i = j)) := by
  unfold g_bt
  rw [Int64.toBitVec_or, BitVec.getLsbD_or, hm, BitVec.getLsbD_twoPow]
  by_cases e : j = i
  · subst e; simp [hj]
  · have e' : ¬ i = j := fun q => e q.symm
    simp [e, e']
theorem g_bt_andn {x m : Int64} {j i : Nat} (hm : m.toBitVec = BitVec.twoPow 64 j) (hj : j < 64) (hi : i < 64) : g_bt (x &&& (m ^^^ (-1))) i = (g_bt x i && !decide (i = j)) := by
  unfold g_bt
  have h1 : ((-1 : Int64).toBitVec).getLsbD i = true := by
    have : ((-1 : Int64).toBitVec) = BitVec.allOnes 64 := by decide
    rw [this, BitVec.getLsbD_allOnes]; simpa using hi
  rw [Int64.toBitVec_and, BitVec.getLsbD_and, Int64.toBitVec_xor, BitVec.getLsbD_xor, h1, hm, BitVec.getLsbD_twoPow]
  by_cases e : j = i
  · subst e; simp [hj]
  · have e' : ¬ i = j := fun q => e q.symm
    simp [e, e']
theorem g_bt_get {x : Int64} {j : Nat} (hj : j < 64) : ((x.toUInt64 >>> ((nI j).toInt64.toUInt64 &&& Int64.toUInt64 63)).toInt64 &&& 1).toInt32 = nI (if g_bt x j then 1 else 0) := by
  have e : ((x.toUInt64 >>> ((nI j).toInt64.toUInt64 &&& Int64.toUInt64 63)).toInt64 &&& 1).toBitVec = if g_bt x j then 1#64 else 0#64 := by
    rw [Int64.toBitVec_and]
    apply BitVec.eq_of_getLsbD_eq
    intro i hi
    have hs := g_su j hj
    rw [BitVec.getLsbD_and]
    have h1 : ((1 : Int64).toBitVec).getLsbD i = decide (i = 0) := by
      have : ((1 : Int64).toBitVec) = 1#64 := by decide
      rw [this]; simp [BitVec.getLsbD_one]
    rw [h1]
    by_cases e : i = 0
    · subst e
      have : ((x.toUInt64 >>> ((nI j).toInt64.toUInt64 &&& Int64.toUInt64 63)).toInt64).toBitVec.getLsbD 0 = g_bt x j := by
        show (x.toUInt64 >>> ((nI j).toInt64.toUInt64 &&& Int64.toUInt64 63)).toBitVec.getLsbD 0 = _
        rw [UInt64.toBitVec_shiftRight, BitVec.ushiftRight_eq', BitVec.getLsbD_ushiftRight]
        have : (((nI j).toInt64.toUInt64 &&& Int64.toUInt64 63).toBitVec % 64#64).toNat = j := by
          rw [BitVec.toNat_umod]
          show ((nI j).toInt64.toUInt64 &&& Int64.toUInt64 63).toNat % _ = j
          rw [hs]
          simpa using hj
        rw [show (((nI j).toInt64.toUInt64 &&& Int64.toUInt64 63).toBitVec % 64).toNat = j from this]
        rfl
      rw [this]
      cases g_bt x j <;> simp
    · cases g_bt x j <;> simp [e, BitVec.getLsbD_one]
  have e2 : ((x.toUInt64 >>> ((nI j).toInt64.toUInt64 &&& Int64.toUInt64 63)).toInt64 &&& 1) = if g_bt x j then 1 else 0 := by
    apply Int64.toBitVec_inj.mp
    rw [e]
    cases g_bt x j <;> decide
  rw [e2]
  cases g_bt x j <;> decide
/-- a step more -/
theorem g_tr_push {f : Nat → Int64} {l : List Nat} {s : Nat} {x : Int64} (h : g_tr f l) (hs : s ≤ 1)
    (hx : ∀ i, i < 64 → g_bt x i = if i = l.length % 64 then decide (s = 1) else g_bt (f (l.length / 64)) i) : g_tr (vp_updL f (l.length / 64) x) (l ++ [s]) := by
  intro j hj
  rw [List.length_append] at hj
  have hj' : j < l.length + 1 := by simpa using hj
  by_cases e : j = l.length
  · subst e
    rw [List.getElem_append_right (Nat.le_refl _), pk_uLs, hx _ (Nat.mod_lt _ (by decide)), if_pos rfl]
    simp only [Nat.sub_self, List.getElem_cons_zero]
    by_cases e1 : s = 1
    · rw [e1]; rfl
    · rw [decide_eq_false e1]
      show s = 0
      omega
  · have hl : j < l.length := by omega
    rw [List.getElem_append_left hl, h j hl]
    by_cases e2 : j / 64 = l.length / 64
    · have hne : ¬ (j % 64 = l.length % 64) := by omega
      rw [e2, pk_uLs, hx _ (Nat.mod_lt _ (by decide)), if_neg hne]
    · rw [pk_uLn e2]
