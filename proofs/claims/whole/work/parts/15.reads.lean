/-! contracts: Reader.reads, place, visits, keepSteps, kept -/
set_option maxHeartbeats 4000000 in
set_option maxRecDepth 100000 in
theorem c_X0_place (ll : Launch) (D : va_G) (ad ro : Nat → Nat) (c : Nat → ClassId) (Z : ZT) (L : LT)   : cI (S := Unit) ll yX0_place vsX0_place ({ frames := 0, cells := 0, slots := 0, locals := 0 } : Room) D (tysG c) [.ref (ad 4)] (wd ad ro c Z L) (fun _ => wd ad ro c Z L) (fun r _ => r = Z 44 0) 0 0 := by
  refine cI_start (cc := cX0_place) (maxL := 1) RX0 rfl (by decide +kernel) rfl (Nat.le_of_ble_eq_true rfl) ?_
  intro κ hlκ C hr _ E hR hn
  subst hlκ
  have hL : ∀ w ∈ u_ws RX0 TX0 8, w.before (ja κ) (js κ) = true := fun w h => C.t w (mX0_place_wsX00 w h)
  have f19 : (Cond.fieldLink RX0 19 "GuardedGrammar$Reader" (TX0 4).2.1 (TX0 4).2.2.1).before (ja κ) (js κ) = true := C.t (.fieldLink RX0 19 "GuardedGrammar$Reader" "place" "I") (mX0_place_o _ (by decide +kernel))
  show J D κ 0 0 0 [(0, .ref (ad 4))] [] (wd ad ro c Z L)
  refine j_aload_n C 0 0 dX0_place_0 rfl rfl ?_
  refine j_get C 1 (ci := 0) hL rfl 4 (wd_o4 ad ro c Z L) 4 (by decide) f19 rfl (v := .int (Z 44 0)) rfl dX0_place_1 ?_
  exact j_ireti C hr E (Nat.le_refl _) (Nat.le_refl _) rfl () rfl rfl dX0_place_4
set_option maxHeartbeats 4000000 in
set_option maxRecDepth 100000 in
theorem c_X0_visits (ll : Launch) (D : va_G) (ad ro : Nat → Nat) (c : Nat → ClassId) (Z : ZT) (L : LT)   : cI (S := Unit) ll yX0_visits vsX0_visits ({ frames := 0, cells := 0, slots := 0, locals := 0 } : Room) D (tysG c) [.ref (ad 4)] (wd ad ro c Z L) (fun _ => wd ad ro c Z L) (fun r _ => r = Z 45 0) 0 0 := by
  refine cI_start (cc := cX0_visits) (maxL := 1) RX0 rfl (by decide +kernel) rfl (Nat.le_of_ble_eq_true rfl) ?_
  intro κ hlκ C hr _ E hR hn
  subst hlκ
  have hL : ∀ w ∈ u_ws RX0 TX0 8, w.before (ja κ) (js κ) = true := fun w h => C.t w (mX0_visits_wsX00 w h)
  have f22 : (Cond.fieldLink RX0 22 "GuardedGrammar$Reader" (TX0 5).2.1 (TX0 5).2.2.1).before (ja κ) (js κ) = true := C.t (.fieldLink RX0 22 "GuardedGrammar$Reader" "visits" "I") (mX0_visits_o _ (by decide +kernel))
  show J D κ 0 0 0 [(0, .ref (ad 4))] [] (wd ad ro c Z L)
  refine j_aload_n C 0 0 dX0_visits_0 rfl rfl ?_
  refine j_get C 1 (ci := 0) hL rfl 4 (wd_o4 ad ro c Z L) 5 (by decide) f22 rfl (v := .int (Z 45 0)) rfl dX0_visits_1 ?_
  exact j_ireti C hr E (Nat.le_refl _) (Nat.le_refl _) rfl () rfl rfl dX0_visits_4
section RD
variable {τ : Tb} {root : Nat} {S : TS} {w σ : List Nat} {t p v f : Nat} {l : List Nat}
theorem g_rd_2 (h : (g_st τ root S (g_nx w p) t σ).1 = 2) : g_rd τ root S w (f + 1) (t :: σ) p v l = (false, p, v, l) := by unfold g_rd; rw [if_pos h]
theorem g_rd_1 (h : (g_st τ root S (g_nx w p) t σ).1 = 1) : g_rd τ root S w (f + 1) (t :: σ) p v l = g_rd τ root S w f (g_st τ root S (g_nx w p) t σ).2 (p + 1) (v + 1) l := by rw [show g_rd τ root S w (f + 1) (t :: σ) p v l = (if (g_st τ root S (g_nx w p) t σ).1 = 2 then (false, p, v, l) else if (g_st τ root S (g_nx w p) t σ).1 = 1 then g_rd τ root S w f (g_st τ root S (g_nx w p) t σ).2 (p + 1) (v + 1) l else g_rd τ root S w f (g_st τ root S (g_nx w p) t σ).2 p (v + 1) (if g_kd τ t = 4 then l ++ [g_cho τ S (g_nx w p) t] else l)) from rfl, if_neg (by omega), if_pos h]
theorem g_rd_0 (h : (g_st τ root S (g_nx w p) t σ).1 = 0) : g_rd τ root S w (f + 1) (t :: σ) p v l = g_rd τ root S w f (g_st τ root S (g_nx w p) t σ).2 p (v + 1) (if g_kd τ t = 4 then l ++ [g_cho τ S (g_nx w p) t] else l) := by rw [show g_rd τ root S w (f + 1) (t :: σ) p v l = (if (g_st τ root S (g_nx w p) t σ).1 = 2 then (false, p, v, l) else if (g_st τ root S (g_nx w p) t σ).1 = 1 then g_rd τ root S w f (g_st τ root S (g_nx w p) t σ).2 (p + 1) (v + 1) l else g_rd τ root S w f (g_st τ root S (g_nx w p) t σ).2 p (v + 1) (if g_kd τ t = 4 then l ++ [g_cho τ S (g_nx w p) t] else l)) from rfl, if_neg (by omega), if_neg (by omega)]
theorem g_st_3 (x : Nat) : (g_st τ root S x t σ).1 = 0 ∨ (g_st τ root S x t σ).1 = 1 ∨ (g_st τ root S x t σ).1 = 2 := by
  unfold g_st
  repeat' split
  all_goals simp
/-- a letter is read: there was one -/
theorem g_st_let {x : Nat} {n : Nat} (h : g_WF n τ) (ht : t < n) (h1 : (g_st τ root S x t σ).1 = 1) : x < 8 := by
  by_cases k0 : g_kd τ t = 0
  · rw [g_st0 k0] at h1; cases h1
  by_cases k2 : g_kd τ t = 2
  · rw [g_st2 k2] at h1
    have := (h.2 t ht).2.1 k2
    by_cases e : g_sg τ t = x
    · omega
    · rw [if_neg e] at h1; cases h1
  by_cases k3 : g_kd τ t = 3
  · rw [g_st3 k3] at h1; cases h1
  by_cases k4 : g_kd τ t = 4
  · rw [g_st4 k4] at h1
    revert h1
    split
    · intro z; cases z
    · split <;> intro z <;> cases z
  by_cases k5 : g_kd τ t = 5
  · rw [g_st5 k5] at h1; cases h1
  by_cases k6 : g_kd τ t = 6
  · rw [g_st6 k6] at h1; cases h1
  · unfold g_st at h1
    rw [if_neg k0, if_neg k2, if_neg k3, if_neg k4, if_neg k5, if_neg k6] at h1
    cases h1
end RD
theorem g_l2 {P : Prop} [Decidable P] (l : List Nat) (x : Nat) : (if P then l ++ [x] else l).length ≤ l.length + 1 := by split <;> simp
def g_rp (τ : Tb) (root : Nat) (w : List Nat) (r : Int32) (Z' : ZT) (L' : LT) : Prop :=
  r = b2 (decide ((g_RD τ root w).1 = true ∧ (g_RD τ root w).2.1 = w.length)) ∧ Z' 44 0 = nI (g_RD τ root w).2.1 ∧ ((g_RD τ root w).1 = true → Z' 45 0 = nI (g_RD τ root w).2.2.1 ∧ Z' 46 0 = nI (g_RD τ root w).2.2.2.length ∧ g_tr (L' 26) (g_RD τ root w).2.2.2) ∧
  (g_RD τ root w).2.1 ≤ w.length ∧ (g_RD τ root w).2.2.1 ≤ 2200 ∧ (g_RD τ root w).2.2.2.length ≤ 2200
theorem g_rp_of {τ : Tb} {root : Nat} {w : List Nat} {b : Bool} {p v : Nat} {l : List Nat} {r : Int32} {Z' : ZT} {L' : LT} (h : (b, p, v, l) = g_RD τ root w) (hr : r = b2 (decide (b = true ∧ p = w.length))) (h1 : Z' 44 0 = nI p) (h2 : b = true → Z' 45 0 = nI v ∧ Z' 46 0 = nI l.length ∧ g_tr (L' 26) l) (h3 : p ≤ w.length) (h4 : v ≤ 2200) (h5 : l.length ≤ 2200) : g_rp τ root w r Z' L' := by
  unfold g_rp
  rw [← h]
  exact ⟨hr, h1, h2, h3, h4, h5⟩
set_option maxHeartbeats 4000000 in
set_option maxRecDepth 100000 in
theorem c_X0_reads (ll : Launch) (D : va_G) (ad ro : Nat → Nat) (c : Nat → ClassId) (Z : ZT) (L : LT) {n : Nat} {τ : Tb} {w : List Nat} (root : Nat) (hwf : g_WF n τ) (hr2 : root < n) (hE : g_ED n τ Z) (hwd : g_WD w (Z 42 0) (Z 22)) (hST : g_ST τ root Z) (hT : g_TY τ root (g_T τ root)) : cI (S := ZT × LT) ll yX0_reads vsX0_reads ({ frames := 4, cells := 0, slots := 0, locals := 91 } : Room) D (tysG c) [.ref (ad 4), .int (nI (root)), .ref (ad 3)] (wd ad ro c Z L) (fun u => wd ad ro c u.1 u.2) (fun r u => g_rp τ root w r u.1 u.2 ∧ g_fr [23, 43, 44, 45, 46] Z u.1 ∧ g_fl [26] L u.2) 0 0 := by
  refine cI_start (cc := cX0_reads) (maxL := 3) RX0 rfl (by decide +kernel) rfl (Nat.le_of_ble_eq_true rfl) ?_
  intro κ hlκ C hr _ E hR hn
  subst hlκ
  have hL : ∀ w ∈ u_ws RX0 TX0 8, w.before (ja κ) (js κ) = true := fun w h => C.t w (mX0_reads_wsX00 w h)
  have f28 : (Cond.fieldLink RX0 28 "GuardedGrammar$Reader" (TX0 6).2.1 (TX0 6).2.2.1).before (ja κ) (js κ) = true := C.t (.fieldLink RX0 28 "GuardedGrammar$Reader" "made" "LGuardedGrammar$Steps;") (mX0_reads_o _ (by decide +kernel))
  have f19 : (Cond.fieldLink RX0 19 "GuardedGrammar$Reader" (TX0 4).2.1 (TX0 4).2.2.1).before (ja κ) (js κ) = true := C.t (.fieldLink RX0 19 "GuardedGrammar$Reader" "place" "I") (mX0_reads_o _ (by decide +kernel))
  have f15 : (Cond.fieldLink RX0 15 "GuardedGrammar$Reader" (TX0 3).2.1 (TX0 3).2.2.1).before (ja κ) (js κ) = true := C.t (.fieldLink RX0 15 "GuardedGrammar$Reader" "open" "I") (mX0_reads_o _ (by decide +kernel))
  have f22 : (Cond.fieldLink RX0 22 "GuardedGrammar$Reader" (TX0 5).2.1 (TX0 5).2.2.1).before (ja κ) (js κ) = true := C.t (.fieldLink RX0 22 "GuardedGrammar$Reader" "visits" "I") (mX0_reads_o _ (by decide +kernel))
  have f9 : (Cond.fieldLink RX0 9 "GuardedGrammar$Reader" (TX0 2).2.1 (TX0 2).2.2.1).before (ja κ) (js κ) = true := C.t (.fieldLink RX0 9 "GuardedGrammar$Reader" "waiting" "[I") (mX0_reads_o _ (by decide +kernel))
  show J D κ 0 0 0 [(0, .ref (ad 4)), (1, .int (nI (root))), (2, .ref (ad 3))] [] (wd ad ro c Z L)
  have h48n := hwf.1
  have hw40 := hwd.1
  have loop : ∀ f (σ : List Nat) (p v : Nat) (l : List Nat) (Z1 : ZT) (L1 : LT), f + v = 2200 → g_RS Z1 L1 σ p l → Z1 45 0 = nI v → g_I τ root (g_T τ root) σ p v → p ≤ w.length → l.length ≤ v → g_rd τ root (g_T τ root) w f σ p v l = g_RD τ root w → g_fr [23, 43, 44, 45, 46] Z Z1 → g_fl [26] L L1 → J D κ 0 0 27 [(0, .ref (ad 4)), (1, .int (nI (root))), (2, .ref (ad 3))] [] (wd ad ro c Z1 L1) := by
    intro f
    induction f with
    | zero =>
      intro σ p v l Z1 L1 hf hRS h45 hI hp hl hrd hfr hfl
      have := g_I_le hwf hr2 hI
      omega
    | succ f ih =>
      intro σ p v l Z1 L1 hf hRS h45 hI hp hl hrd hfr hfl
      have hIl := g_I_le hwf hr2 hI
      have hwd1 := g_WD_fr hfr (by decide) hwd
      have hE1 : g_ED n τ Z1 := g_ED_fr hfr (by decide) hE
      have hST1 : g_ST τ root Z1 := g_ST_fr hfr (by decide) hST
      cases σ with
      | nil =>
        have h43 : Z1 43 0 = nI 0 := hRS.1
        refine j_aload_n C 27 0 dX0_reads_27 rfl rfl ?_
        refine j_get C 28 (ci := 0) hL rfl 4 (wd_o4 ad ro c Z1 L1) 3 (by decide) f15 rfl (v := .int (Z1 43 0)) rfl dX0_reads_28 ?_
        refine j_eqi h43 ?_
        refine j_if_le_n C 31 85 (by decide) dX0_reads_31 (by decide) (fun _ => ?_) (fun h => absurd h (by decide))
        refine j_aload_n C 85 0 dX0_reads_85 rfl rfl ?_
        refine j_get C 86 (ci := 0) hL rfl 4 (wd_o4 ad ro c Z1 L1) 4 (by decide) f19 rfl (v := .int (Z1 44 0)) rfl dX0_reads_86 ?_
        refine j_eqi hRS.2.2.1 ?_
        refine j_aload_n C 89 2 dX0_reads_89 rfl rfl ?_
        refine j_callI (mc := 0) (ms := 0) C 90 (c_X6_size (jl κ) D ad ro c Z1 L1 ) gX0_reads_X6_size rfl rfl rfl hd_X6_size (by rw [hR]; exact ⟨Nat.le_of_ble_eq_true rfl, Nat.le_of_ble_eq_true rfl⟩) (ci := 6) rfl 3 (wd_o3 ad ro c Z1 L1) rfl (Nat.le_of_ble_eq_true rfl) ⟨Nat.zero_le _, Nat.zero_le _⟩ dX0_reads_90 (fun r90 _ e90 => ?_)
        refine j_eqi (y := nI (w.length)) (e90.trans hwd1.2.1) ?_
        refine j_icmp_ne_n C 93 100 (by omega) (by omega) dX0_reads_93 (by decide) (fun h93 => ?_) (fun h93 => ?_)
        · refine j_iconst C 100 (v := nI 0) dX0_reads_100 rfl ?_
          exact j_ireti C hr E (Nat.le_refl _) (Nat.le_refl _) (by decide) (Z1, L1) ⟨g_rp_of hrd (by rw [decide_eq_false (show ¬ (true = true ∧ p = w.length) from fun z => h93 z.2)]; rfl) hRS.2.2.1 (fun _ => ⟨h45, hRS.2.2.2⟩) hp (by omega) (by omega), hfr, hfl⟩ rfl dX0_reads_101
        · refine j_iconst C 96 (v := nI 1) dX0_reads_96 rfl ?_
          refine j_goto C 97 101 dX0_reads_97 (by decide) ?_
          exact j_ireti C hr E (Nat.le_refl _) (Nat.le_refl _) (by decide) (Z1, L1) ⟨g_rp_of hrd (by rw [decide_eq_true (show true = true ∧ p = w.length from ⟨rfl, h93⟩)]; rfl) hRS.2.2.1 (fun _ => ⟨h45, hRS.2.2.2⟩) hp (by omega) (by omega), hfr, hfl⟩ rfl dX0_reads_101
      | cons t σ =>
        have h43 : Z1 43 0 = nI (σ.length + 1) := hRS.1
        have htP := hI.1 t (by simp)
        have htn := g_P_lt hwf hr2 htP
        have hsl : (t :: σ).length = σ.length + 1 := rfl
        have hpop := g_ar_pop (l := σ.reverse) (x := t) (by have q := hRS.2.1; rw [List.reverse_cons] at q; exact q)
        rw [List.length_reverse] at hpop
        have hRS1 : g_RS (upR Z1 43 (fun _ => nI σ.length)) L1 σ p l := ⟨rfl, hpop.1, hRS.2.2⟩
        refine j_aload_n C 27 0 dX0_reads_27 rfl rfl ?_
        refine j_get C 28 (ci := 0) hL rfl 4 (wd_o4 ad ro c Z1 L1) 3 (by decide) f15 rfl (v := .int (Z1 43 0)) rfl dX0_reads_28 ?_
        refine j_eqi h43 ?_
        refine j_if_le_n C 31 85 (by omega) dX0_reads_31 (by decide) (fun h => absurd h (by omega)) (fun _ => ?_)
        refine j_aload_n C 34 0 dX0_reads_34 rfl rfl ?_
        refine j_get C 35 (ci := 0) hL rfl 4 (wd_o4 ad ro c Z1 L1) 5 (by decide) f22 rfl (v := .int (Z1 45 0)) rfl dX0_reads_35 ?_
        refine j_eqi h45 ?_
        refine j_ldc C 38 (v := 1000000) (v' := nI 1000000) (C.t _ (mX0_reads_o _ (by decide +kernel))) dX0_reads_38 (by decide) ?_
        refine j_icmp_ge_n C 40 85 (by omega) (by decide) dX0_reads_40 (by decide) (fun h => absurd h (by omega)) (fun _ => ?_)
        refine j_aload_n C 43 0 dX0_reads_43 rfl rfl ?_
        refine j_dup C 44 dX0_reads_44 rfl ?_
        refine j_get C 45 (ci := 0) hL rfl 4 (wd_o4 ad ro c Z1 L1) 3 (by decide) f15 rfl (v := .int (Z1 43 0)) rfl dX0_reads_45 ?_
        refine j_eqi h43 ?_
        refine j_iconst C 48 (v := nI 1) dX0_reads_48 rfl ?_
        refine j_isub_e C 49 dX0_reads_49 (pk_sub (by omega)) ?_
        refine j_eqi (show nI (σ.length + 1 - 1) = nI σ.length by rw [Nat.add_sub_cancel]) ?_
        refine j_put C 50 (ci := 0) hL tyX0_ok nmX0 rfl 4 (wd_o4 ad ro c Z1 L1) 3 (by decide) f15 rfl rfl (tyX0_ok 3 (by decide)) rfl rfl (Nat.le_of_ble_eq_true rfl) (wd_p43 ad ro c Z1 L1 (nI (σ.length))) dX0_reads_50 ?_
        refine j_aload_n C 53 0 dX0_reads_53 rfl rfl ?_
        refine j_aload_n C 54 0 dX0_reads_54 rfl rfl ?_
        refine j_get C 55 (ci := 0) hL rfl 4 (wd_o4 ad ro c (upR Z1 43 (fun _ => nI (σ.length))) L1) 2 (by decide) f9 rfl (v := .ref (ad 23)) rfl dX0_reads_55 ?_
        refine j_aload_n C 58 0 dX0_reads_58 rfl rfl ?_
        refine j_get C 59 (ci := 0) hL rfl 4 (wd_o4 ad ro c (upR Z1 43 (fun _ => nI (σ.length))) L1) 3 (by decide) f15 rfl (v := .int (nI (σ.length))) rfl dX0_reads_59 ?_
        refine j_iald C 62 23 0 (f := Z1 23) (wd_a23 ad ro c (upR Z1 43 (fun _ => nI (σ.length))) L1) rfl (by omega) (by decide) dX0_reads_62 ?_
        refine j_eqi hpop.2 ?_
        refine j_aload_n C 63 2 dX0_reads_63 rfl rfl ?_
        refine j_callI (mc := 0) (ms := 0) C 64 (c_X0_visit (jl κ) D ad ro c (upR Z1 43 (fun _ => nI (σ.length))) L1 t hwf hr2 hE1 hwd1 hRS1 hp hST1 hT htP (by omega) (by omega)) gX0_reads_X0_visit rfl rfl rfl hd_X0_visit (by rw [hR]; exact ⟨Nat.le_of_ble_eq_true rfl, Nat.le_of_ble_eq_true rfl⟩) (ci := 0) rfl 4 (wd_o4 ad ro c (upR Z1 43 (fun _ => nI (σ.length))) L1) rfl (Nat.le_of_ble_eq_true rfl) ⟨Nat.zero_le _, Nat.zero_le _⟩ dX0_reads_64 (fun r64 u64 q64 => ?_)
        have h45b : u64.1 45 0 = nI v := (congrFun (q64.2.1 45 (by decide)) 0).trans h45
        have hfr2 : g_fr [23, 43, 44, 45, 46] Z u64.1 := g_fr_trans (g_fr_up hfr (by decide) _) (g_fr_sub q64.2.1 (by decide))
        have hfl2 : g_fl [26] L u64.2 := g_fl_trans hfl q64.2.2
        rcases g_st_3 (τ := τ) (root := root) (S := g_T τ root) (t := t) (σ := σ) (g_nx w p) with hs | hs | hs
        · rw [g_rd_0 hs] at hrd
          refine j_eqi (y := nI 1) (q64.1.1.trans (by rw [hs]; rfl)) ?_
          have hI2 := g_I_st hwf hr2 hT (g_nx w p) hI hs
          refine j_if_ne_n C 67 72 (by decide) dX0_reads_67 (by decide) (fun _ => ?_) (fun h => absurd h (by decide))
          refine j_aload_n C 72 0 dX0_reads_72 rfl rfl ?_
          refine j_dup C 73 dX0_reads_73 rfl ?_
          refine j_get C 74 (ci := 0) hL rfl 4 (wd_o4 ad ro c u64.1 u64.2) 5 (by decide) f22 rfl (v := .int (u64.1 45 0)) rfl dX0_reads_74 ?_
          refine j_eqi h45b ?_
          refine j_iconst C 77 (v := nI 1) dX0_reads_77 rfl ?_
          refine j_iadd_e C 78 dX0_reads_78 (nI_add _ _) ?_
          refine j_put C 79 (ci := 0) hL tyX0_ok nmX0 rfl 4 (wd_o4 ad ro c u64.1 u64.2) 5 (by decide) f22 rfl rfl (tyX0_ok 5 (by decide)) rfl rfl (Nat.le_of_ble_eq_true rfl) (wd_p45 ad ro c u64.1 u64.2 (nI (v + 1))) dX0_reads_79 ?_
          refine j_goto C 82 27 dX0_reads_82 (by decide) ?_
          exact ih (g_st τ root (g_T τ root) (g_nx w p) t σ).2 p (v + 1) (if g_kd τ t = 4 then l ++ [g_cho τ (g_T τ root) (g_nx w p) t] else l) (upR u64.1 45 (fun _ => nI (v + 1))) u64.2 (by omega) (q64.1.2.1 hs) rfl hI2 hp (Nat.le_trans (g_l2 _ _) (by omega)) hrd (g_fr_up hfr2 (by decide) _) hfl2
        · rw [g_rd_1 hs] at hrd
          refine j_eqi (y := nI 1) (q64.1.1.trans (by rw [hs]; rfl)) ?_
          have hI2 := g_I_let hwf hr2 hT (g_nx w p) hI hs
          have hx8 := g_st_let hwf htn hs
          have hp2 : p < w.length := Nat.lt_of_not_le (fun z => by rw [g_nx_out z] at hx8; omega)
          refine j_if_ne_n C 67 72 (by decide) dX0_reads_67 (by decide) (fun _ => ?_) (fun h => absurd h (by decide))
          refine j_aload_n C 72 0 dX0_reads_72 rfl rfl ?_
          refine j_dup C 73 dX0_reads_73 rfl ?_
          refine j_get C 74 (ci := 0) hL rfl 4 (wd_o4 ad ro c u64.1 u64.2) 5 (by decide) f22 rfl (v := .int (u64.1 45 0)) rfl dX0_reads_74 ?_
          refine j_eqi h45b ?_
          refine j_iconst C 77 (v := nI 1) dX0_reads_77 rfl ?_
          refine j_iadd_e C 78 dX0_reads_78 (nI_add _ _) ?_
          refine j_put C 79 (ci := 0) hL tyX0_ok nmX0 rfl 4 (wd_o4 ad ro c u64.1 u64.2) 5 (by decide) f22 rfl rfl (tyX0_ok 5 (by decide)) rfl rfl (Nat.le_of_ble_eq_true rfl) (wd_p45 ad ro c u64.1 u64.2 (nI (v + 1))) dX0_reads_79 ?_
          refine j_goto C 82 27 dX0_reads_82 (by decide) ?_
          exact ih (g_st τ root (g_T τ root) (g_nx w p) t σ).2 (p + 1) (v + 1) l (upR u64.1 45 (fun _ => nI (v + 1))) u64.2 (by omega) (q64.1.2.2.1 hs) rfl hI2 (by omega) (by omega) hrd (g_fr_up hfr2 (by decide) _) hfl2
        · rw [g_rd_2 hs] at hrd
          refine j_eqi (y := nI 0) (q64.1.1.trans (by rw [hs]; rfl)) ?_
          refine j_if_ne_n C 67 72 (by decide) dX0_reads_67 (by decide) (fun h => absurd rfl h) (fun _ => ?_)
          refine j_iconst C 70 (v := nI 0) dX0_reads_70 rfl ?_
          exact j_ireti C hr E (Nat.le_refl _) (Nat.le_refl _) (by decide) (u64.1, u64.2) ⟨g_rp_of hrd rfl (q64.1.2.2.2 hs) (fun z => by cases z) hp (by omega) (by omega), hfr2, hfl2⟩ rfl dX0_reads_71
  refine j_aload_n C 0 0 dX0_reads_0 rfl rfl ?_
  refine j_get C 1 (ci := 0) hL rfl 4 (wd_o4 ad ro c Z L) 6 (by decide) f28 rfl (v := .ref (ad 5)) rfl dX0_reads_1 ?_
  refine j_callV (mc := 0) (ms := 0) C 4 (c_X2_forgetAll (jl κ) D ad ro c Z L) gX0_reads_X2_forgetAll rfl rfl rfl hd_X2_forgetAll (by rw [hR]; exact ⟨Nat.le_of_ble_eq_true rfl, Nat.le_of_ble_eq_true rfl⟩) (ci := 2) rfl 5 (wd_o5 ad ro c Z L) rfl (Nat.le_of_ble_eq_true rfl) ⟨Nat.zero_le _, Nat.zero_le _⟩ dX0_reads_4 (fun _ _ => ?_)
  refine j_aload_n C 7 0 dX0_reads_7 rfl rfl ?_
  refine j_iconst C 8 (v := nI 0) dX0_reads_8 rfl ?_
  refine j_put C 9 (ci := 0) hL tyX0_ok nmX0 rfl 4 (wd_o4 ad ro c (upR Z 46 (fun _ => nI (0))) L) 4 (by decide) f19 rfl rfl (tyX0_ok 4 (by decide)) rfl rfl (Nat.le_of_ble_eq_true rfl) (wd_p44 ad ro c (upR Z 46 (fun _ => nI (0))) L (nI (0))) dX0_reads_9 ?_
  refine j_aload_n C 12 0 dX0_reads_12 rfl rfl ?_
  refine j_iconst C 13 (v := nI 0) dX0_reads_13 rfl ?_
  refine j_put C 14 (ci := 0) hL tyX0_ok nmX0 rfl 4 (wd_o4 ad ro c (upR (upR Z 46 (fun _ => nI (0))) 44 (fun _ => nI (0))) L) 3 (by decide) f15 rfl rfl (tyX0_ok 3 (by decide)) rfl rfl (Nat.le_of_ble_eq_true rfl) (wd_p43 ad ro c (upR (upR Z 46 (fun _ => nI (0))) 44 (fun _ => nI (0))) L (nI (0))) dX0_reads_14 ?_
  refine j_aload_n C 17 0 dX0_reads_17 rfl rfl ?_
  refine j_iload_n C 18 1 dX0_reads_18 rfl rfl ?_
  refine j_callV (mc := 0) (ms := 0) C 19 (c_X0_await (jl κ) D ad ro c (upR (upR (upR Z 46 (fun _ => nI (0))) 44 (fun _ => nI (0))) 43 (fun _ => nI (0))) L (nI (root)) (0) (rfl) (by omega)) gX0_reads_X0_await rfl rfl rfl hd_X0_await (by rw [hR]; exact ⟨Nat.le_of_ble_eq_true rfl, Nat.le_of_ble_eq_true rfl⟩) (ci := 0) rfl 4 (wd_o4 ad ro c (upR (upR (upR Z 46 (fun _ => nI (0))) 44 (fun _ => nI (0))) 43 (fun _ => nI (0))) L) rfl (Nat.le_of_ble_eq_true rfl) ⟨Nat.zero_le _, Nat.zero_le _⟩ dX0_reads_19 (fun _ _ => ?_)
  refine j_aload_n C 22 0 dX0_reads_22 rfl rfl ?_
  refine j_iconst C 23 (v := nI 0) dX0_reads_23 rfl ?_
  refine j_put C 24 (ci := 0) hL tyX0_ok nmX0 rfl 4 (wd_o4 ad ro c (upR (upR (upR (upR (upR Z 46 (fun _ => nI (0))) 44 (fun _ => nI (0))) 43 (fun _ => nI (0))) 23 (upd (Z 23) (0) (nI (root)))) 43 (fun _ => nI (0 + 1))) L) 5 (by decide) f22 rfl rfl (tyX0_ok 5 (by decide)) rfl rfl (Nat.le_of_ble_eq_true rfl) (wd_p45 ad ro c (upR (upR (upR (upR (upR Z 46 (fun _ => nI (0))) 44 (fun _ => nI (0))) 43 (fun _ => nI (0))) 23 (upd (Z 23) (0) (nI (root)))) 43 (fun _ => nI (0 + 1))) L (nI (0))) dX0_reads_24 ?_
  exact loop 2200 [root] 0 0 [] (upR (upR (upR (upR (upR (upR Z 46 (fun _ => nI (0))) 44 (fun _ => nI (0))) 43 (fun _ => nI (0))) 23 (upd (Z 23) (0) (nI (root)))) 43 (fun _ => nI (0 + 1))) 45 (fun _ => nI (0))) L rfl ⟨rfl, g_ar_push (l := []) g_ar_nil rfl, rfl, rfl, fun j h => by cases h⟩ rfl (g_I_start hwf hr2) (Nat.zero_le _) (Nat.le_refl _) rfl (g_fr_up (g_fr_up (g_fr_up (g_fr_up (g_fr_up (g_fr_up g_fr_rfl (by decide) _) (by decide) _) (by decide) _) (by decide) _) (by decide) _) (by decide) _) g_fl_rfl
/-- the steps of the latest reading and those that are kept change places -/
def swA (ad : Nat → Nat) : Nat → Nat := fun k => bif Nat.beq k 5 then ad 6 else bif Nat.beq k 6 then ad 5 else bif Nat.beq k 26 then ad 27 else bif Nat.beq k 27 then ad 26 else ad k
def swZ (Z : ZT) : ZT := upR (upR Z 46 (Z 47)) 47 (Z 46)
def swL (L : LT) : LT := upR (upR L 26 (L 27)) 27 (L 26)

set_option maxHeartbeats 4000000 in
set_option maxRecDepth 100000 in
theorem c_X0_keepSteps (ll : Launch) (D : va_G) (ad ro : Nat → Nat) (c : Nat → ClassId) (Z : ZT) (L : LT)   : cV (S := Unit) ll yX0_keepSteps vsX0_keepSteps ({ frames := 0, cells := 0, slots := 0, locals := 0 } : Room) D (tysG c) [.ref (ad 4)] (wd ad ro c Z L) (fun _ => wd (swA ad) ro c (swZ Z) (swL L)) (fun _ => True) 0 0 := by
  refine cV_start (cc := cX0_keepSteps) (maxL := 2) RX0 rfl (by decide +kernel) rfl (Nat.le_of_ble_eq_true rfl) ?_
  intro κ hlκ C hr _ E hR hn
  subst hlκ
  have hL : ∀ w ∈ u_ws RX0 TX0 8, w.before (ja κ) (js κ) = true := fun w h => C.t w (mX0_keepSteps_wsX00 w h)
  have f32 : (Cond.fieldLink RX0 32 "GuardedGrammar$Reader" (TX0 7).2.1 (TX0 7).2.2.1).before (ja κ) (js κ) = true := C.t (.fieldLink RX0 32 "GuardedGrammar$Reader" "kept" "LGuardedGrammar$Steps;") (mX0_keepSteps_o _ (by decide +kernel))
  have f28 : (Cond.fieldLink RX0 28 "GuardedGrammar$Reader" (TX0 6).2.1 (TX0 6).2.2.1).before (ja κ) (js κ) = true := C.t (.fieldLink RX0 28 "GuardedGrammar$Reader" "made" "LGuardedGrammar$Steps;") (mX0_keepSteps_o _ (by decide +kernel))
  show J D κ 0 0 0 [(0, .ref (ad 4))] [] (wd ad ro c Z L)
  refine j_aload_n C 0 0 dX0_keepSteps_0 rfl rfl ?_
  refine j_get C 1 (ci := 0) hL rfl 4 (wd_o4 ad ro c Z L) 7 (by decide) f32 rfl (v := .ref (ad 6)) rfl dX0_keepSteps_1 ?_
  refine j_astore_n C 4 (lv' := [(1, .ref (ad 6)), (0, .ref (ad 4))]) dX0_keepSteps_4 rfl (by rw [hn]; decide) rfl ?_
  refine j_aload_n C 5 1 dX0_keepSteps_5 rfl rfl ?_
  refine j_aload_n C 6 1 dX0_keepSteps_6 rfl rfl ?_
  refine j_get C 7 (ci := 0) hL rfl 4 (wd_o4 ad ro c Z L) 6 (by decide) f28 rfl (v := .ref (ad 5)) rfl dX0_keepSteps_7 ?_
  refine j_put C 10 (ci := 0) hL tyX0_ok nmX0 rfl 4 (wd_o4 ad ro c Z L) 7 (by decide) f32 rfl rfl (tyX0_ok 7 (by decide)) rfl rfl (Nat.le_of_ble_eq_true rfl) (ws' := ((wd ad ro c Z L).set 4 (ad 4, .inr (0, [.ref (ad 1), .ref (ad 2), .ref (ad 23), .int (Z 43 0), .int (Z 44 0), .int (Z 45 0), .ref (ad 5), .ref (ad 5)])))) rfl dX0_keepSteps_10 ?_
  refine j_aload_n C 13 1 dX0_keepSteps_13 rfl rfl ?_
  refine j_aload_n C 14 0 dX0_keepSteps_14 rfl rfl ?_
  refine j_put C 15 (ci := 0) hL tyX0_ok nmX0 rfl 4 (show ((wd ad ro c Z L).set 4 (ad 4, .inr (0, [.ref (ad 1), .ref (ad 2), .ref (ad 23), .int (Z 43 0), .int (Z 44 0), .int (Z 45 0), .ref (ad 5), .ref (ad 5)])))[4]? = some (ad 4, .inr (0, [.ref (ad 1), .ref (ad 2), .ref (ad 23), .int (Z 43 0), .int (Z 44 0), .int (Z 45 0), .ref (ad 5), .ref (ad 5)])) from rfl) 6 (by decide) f28 rfl rfl (tyX0_ok 6 (by decide)) rfl rfl (Nat.le_of_ble_eq_true rfl) (ws' := (((wd ad ro c Z L).set 4 (ad 4, .inr (0, [.ref (ad 1), .ref (ad 2), .ref (ad 23), .int (Z 43 0), .int (Z 44 0), .int (Z 45 0), .ref (ad 5), .ref (ad 5)]))).set 4 (ad 4, .inr (0, [.ref (ad 1), .ref (ad 2), .ref (ad 23), .int (Z 43 0), .int (Z 44 0), .int (Z 45 0), .ref (ad 6), .ref (ad 5)])))) rfl dX0_keepSteps_15 ?_
  refine j_pick [0, 1, 2, 3, 4, 6, 5, 7, 8, 9, 10, 11, 12, 13, 14, 15, 16, 17, 18, 19, 20, 21, 22, 23, 24, 25, 27, 26, 28, 29, 30, 31, 32, 33, 34, 35, 36, 37, 38, 39, 40, 41, 42, 43, 44, 45, 46, 47, 48, 49, 50, 51, 52, 53, 54, 55, 56, 57, 58, 59, 60, 61, 62, 63, 64, 65, 66, 67, 68, 69, 70, 71, 72, 73, 74, 75, 76, 77, 78] (by decide) (ws' := wd (swA ad) ro c (swZ Z) (swL L)) rfl ?_
  exact j_vreti C hr E (Nat.le_refl _) (Nat.le_refl _) () trivial rfl dX0_keepSteps_18
set_option maxHeartbeats 4000000 in
set_option maxRecDepth 100000 in
theorem c_X0_kept (ll : Launch) (D : va_G) (ad ro : Nat → Nat) (c : Nat → ClassId) (Z : ZT) (L : LT)   : cR (S := Unit) ll yX0_kept vsX0_kept ({ frames := 0, cells := 0, slots := 0, locals := 0 } : Room) D (tysG c) [.ref (ad 4)] (wd ad ro c Z L) (fun _ => wd ad ro c Z L) (fun r _ => r = ad 6) 0 0 := by
  refine cR_start (cc := cX0_kept) (maxL := 1) RX0 rfl (by decide +kernel) rfl (Nat.le_of_ble_eq_true rfl) ?_
  intro κ hlκ C hr _ E hR hn
  subst hlκ
  have hL : ∀ w ∈ u_ws RX0 TX0 8, w.before (ja κ) (js κ) = true := fun w h => C.t w (mX0_kept_wsX00 w h)
  have f32 : (Cond.fieldLink RX0 32 "GuardedGrammar$Reader" (TX0 7).2.1 (TX0 7).2.2.1).before (ja κ) (js κ) = true := C.t (.fieldLink RX0 32 "GuardedGrammar$Reader" "kept" "LGuardedGrammar$Steps;") (mX0_kept_o _ (by decide +kernel))
  show J D κ 0 0 0 [(0, .ref (ad 4))] [] (wd ad ro c Z L)
  refine j_aload_n C 0 0 dX0_kept_0 rfl rfl ?_
  refine j_get C 1 (ci := 0) hL rfl 4 (wd_o4 ad ro c Z L) 7 (by decide) f32 rfl (v := .ref (ad 6)) rfl dX0_kept_1 ?_
  exact j_areti (post := fun r _ => r = ad 6) (wf := fun _ => wd ad ro c Z L) C hr E (Nat.le_refl _) (Nat.le_refl _) ⟨_, rfl⟩ () rfl rfl dX0_kept_4
