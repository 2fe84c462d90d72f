/-! contracts: the reference, read -/
/-- the reference's state: what it holds, as the class's -/
def g_SM (n : Nat) (τ : Tb) (w : List Nat) (st : Int32) (tr : List Nat) (Z : ZT) : Prop := g_WF n τ ∧ g_EM n τ Z ∧ Z 41 0 = nI n ∧ g_WD w (Z 42 0) (Z 12) ∧ Z 43 0 = st ∧ Z 44 0 = nI tr.length ∧ g_ar (Z 13) 0 tr ∧ tr.length ≤ 2100
theorem g_SM_fr {n : Nat} {τ : Tb} {w : List Nat} {st : Int32} {tr : List Nat} {ks : List Nat} {Z Z' : ZT} (h : g_SM n τ w st tr Z) (hz : g_fr ks Z Z') (hk : ∀ k, k ∈ [1, 2, 3, 4, 5, 6, 12, 13, 41, 42, 43, 44] → k ∉ ks) : g_SM n τ w st tr Z' := by
  obtain ⟨h1, h2, h3, h4, h5, h6, h7, h8⟩ := h
  refine ⟨h1, g_EM_fr hz (fun k hkk => hk k (by revert hkk; simp; omega)) h2, ?_, ?_, ?_, ?_, ?_, h8⟩
  · rw [hz 41 (hk 41 (by decide))]; exact h3
  · rw [hz 42 (hk 42 (by decide)), hz 12 (hk 12 (by decide))]; exact h4
  · rw [hz 43 (hk 43 (by decide))]; exact h5
  · rw [hz 44 (hk 44 (by decide))]; exact h6
  · rw [hz 13 (hk 13 (by decide))]; exact h7
theorem g_SM_40 {n : Nat} {τ : Tb} {w : List Nat} {st : Int32} {tr : List Nat} {Z : ZT} (h : g_SM n τ w st tr Z) (f : Nat → Int32) : g_SM n τ w st tr (upR Z 40 f) := g_SM_fr (ks := [40]) h (g_fr_up g_fr_rfl (by decide) f) (by decide)
theorem g_SM_st {n : Nat} {τ : Tb} {w : List Nat} {st s : Int32} {tr : List Nat} {Z : ZT} (h : g_SM n τ w st tr Z) : g_SM n τ w s tr (upR Z 43 (fun _ => s)) := by
  obtain ⟨h1, h2, h3, h4, h5, h6, h7, h8⟩ := h
  exact ⟨h1, h2, h3, h4, rfl, h6, h7, h8⟩
section RG
variable {τ : Tb} {root : Nat} {S : TS} {w σ : List Nat} {t p v f : Nat} {l : List Nat}
/-- what is left of a reading, with the fuel that is left -/
def g_RL (τ : Tb) (root : Nat) (w : List Nat) (σ : List Nat) (p v : Nat) (l : List Nat) : Prop := ∃ f, f + v = 2200 ∧ g_rd τ root (g_T τ root) w f σ p v l = g_RD τ root w
theorem g_RL_0 : g_RL τ root w [root] 0 0 [] := ⟨2200, rfl, rfl⟩
theorem g_RL_f (h : g_RL τ root w σ p v l) (hv : v ≤ 2100) : ∃ f, f + 1 + v = 2200 ∧ g_rd τ root (g_T τ root) w (f + 1) σ p v l = g_RD τ root w := by
  obtain ⟨f, h1, h2⟩ := h
  cases f with
  | zero => omega
  | succ f => exact ⟨f, h1, h2⟩
theorem g_RL_st (h : g_RL τ root w (t :: σ) p v l) (hv : v ≤ 2100) (h0 : (g_st τ root (g_T τ root) (g_nx w p) t σ).1 = 0) : g_RL τ root w (g_st τ root (g_T τ root) (g_nx w p) t σ).2 p (v + 1) (if g_kd τ t = 4 then l ++ [g_cho τ (g_T τ root) (g_nx w p) t] else l) := by
  obtain ⟨f, h1, h2⟩ := g_RL_f h hv
  rw [g_rd_0 h0] at h2
  exact ⟨f, by omega, h2⟩
theorem g_RL_let (h : g_RL τ root w (t :: σ) p v l) (hv : v ≤ 2100) (h1 : g_st τ root (g_T τ root) (g_nx w p) t σ = (1, σ)) : g_RL τ root w σ (p + 1) (v + 1) l := by
  obtain ⟨f, h2, h3⟩ := g_RL_f h hv
  rw [g_rd_1 (by rw [h1]), h1] at h3
  exact ⟨f, by omega, h3⟩
theorem g_RL_no (h : g_RL τ root w (t :: σ) p v l) (hv : v ≤ 2100) (h1 : (g_st τ root (g_T τ root) (g_nx w p) t σ).1 = 2) : g_RD τ root w = (false, p, v, l) := by
  obtain ⟨f, h2, h3⟩ := g_RL_f h hv
  rw [g_rd_2 h1] at h3
  exact h3.symm
theorem g_RL_end (h : g_RL τ root w [] p v l) (hv : v ≤ 2100) : g_RD τ root w = (true, p, v, l) := by
  obtain ⟨f, h2, h3⟩ := g_RL_f h hv
  exact h3.symm
end RG
theorem j_zz {D : va_G} {κ : Kx} {cells slots pc : Nat} {lv : List (Nat × Value)} {st : List Value} {bd : Nat → Nat} {c : Nat → ClassId} {Z Z' : ZT} {L : LT} (h : Z = Z') (k : J D κ cells slots pc lv st (wm bd c Z' L)) : J D κ cells slots pc lv st (wm bd c Z L) := h ▸ k
theorem upR_id (Z : ZT) (k : Nat) : Z = upR Z k (Z k) := by
  funext j
  unfold upR
  cases h : Nat.beq j k with
  | false => rfl
  | true => rw [Nat.eq_of_beq_eq_true h]; rfl
set_option maxHeartbeats 4000000 in
set_option maxRecDepth 100000 in
theorem c_X8_read (ll : Launch) (D : va_G) (bd : Nat → Nat) (c : Nat → ClassId) (Z : ZT) (L : LT) {n : Nat} {τ : Tb} {w : List Nat} {st : Int32} {tr : List Nat} (x : Int32) (hSM : g_SM n τ w st tr Z) : cI (S := ZT) ll yX8_read vsX8_read ({ frames := 3, cells := 0, slots := 0, locals := 73 } : Room) D (tysG c) [.ref (bd 0), .int (x)] (wm bd c Z L) (fun Z' => wm bd c Z' L) (fun r Z' => Z' 40 0 = nI (k_read n τ w x) ∧ (k_read n τ w x = 0 → r = nI (g_RD τ (cN x) w).2.2.1) ∧ g_SM n τ w (if k_read n τ w x = 0 then -1 else if k_read n τ w x = 3 then nI (g_RD τ (cN x) w).2.1 else st) (if k_read n τ w x = 0 then (g_RD τ (cN x) w).2.2.2 else tr) Z') 0 0 := by
  refine cI_start (cc := cX8_read) (maxL := 5) RX8 rfl (by decide +kernel) rfl (Nat.le_of_ble_eq_true rfl) ?_
  intro κ hlκ C hr _ E hR hn
  subst hlκ
  have hL : ∀ w ∈ u_ws RX8 TX8 28, w.before (ja κ) (js κ) = true := fun w h => C.t w (mX8_read_wsX80 w h)
  have f73 : (Cond.fieldLink RX8 73 "GuardedGrammarModel" (TX8 0).2.1 (TX8 0).2.2.1).before (ja κ) (js κ) = true := C.t (.fieldLink RX8 73 "GuardedGrammarModel" "thrown" "I") (mX8_read_o _ (by decide +kernel))
  have f113 : (Cond.fieldLink RX8 113 "GuardedGrammarModel" (TX8 13).2.1 (TX8 13).2.2.1).before (ja κ) (js κ) = true := C.t (.fieldLink RX8 113 "GuardedGrammarModel" "letters" "I") (mX8_read_o _ (by decide +kernel))
  have f44 : (Cond.fieldLink RX8 44 "GuardedGrammarModel" (TX8 14).2.1 (TX8 14).2.2.1).before (ja κ) (js κ) = true := C.t (.fieldLink RX8 44 "GuardedGrammarModel" "word" "[I") (mX8_read_o _ (by decide +kernel))
  have f47 : (Cond.fieldLink RX8 47 "GuardedGrammarModel" (TX8 15).2.1 (TX8 15).2.2.1).before (ja κ) (js κ) = true := C.t (.fieldLink RX8 47 "GuardedGrammarModel" "at" "I") (mX8_read_o _ (by decide +kernel))
  have f126 : (Cond.fieldLink RX8 126 "GuardedGrammarModel" (TX8 18).2.1 (TX8 18).2.2.1).before (ja κ) (js κ) = true := C.t (.fieldLink RX8 126 "GuardedGrammarModel" "fresh" "I") (mX8_read_o _ (by decide +kernel))
  have f138 : (Cond.fieldLink RX8 138 "GuardedGrammarModel" (TX8 16).2.1 (TX8 16).2.2.1).before (ja κ) (js κ) = true := C.t (.fieldLink RX8 138 "GuardedGrammarModel" "steps" "I") (mX8_read_o _ (by decide +kernel))
  have f51 : (Cond.fieldLink RX8 51 "GuardedGrammarModel" (TX8 17).2.1 (TX8 17).2.2.1).before (ja κ) (js κ) = true := C.t (.fieldLink RX8 51 "GuardedGrammarModel" "trace" "[I") (mX8_read_o _ (by decide +kernel))
  have f54 : (Cond.fieldLink RX8 54 "GuardedGrammarModel" (TX8 19).2.1 (TX8 19).2.2.1).before (ja κ) (js κ) = true := C.t (.fieldLink RX8 54 "GuardedGrammarModel" "met" "[I") (mX8_read_o _ (by decide +kernel))
  have f119 : (Cond.fieldLink RX8 119 "GuardedGrammarModel" (TX8 20).2.1 (TX8 20).2.2.1).before (ja κ) (js κ) = true := C.t (.fieldLink RX8 119 "GuardedGrammarModel" "visited" "I") (mX8_read_o _ (by decide +kernel))
  show J D κ 0 0 0 [(0, .ref (bd 0)), (1, .int (x))] [] (wm bd c Z L)
  obtain ⟨hwf, hE, hz, hwd, h43, h44, htr, htl⟩ := id hSM
  have ht48 := hwf.1
  have hw40 := hwd.1
  by_cases hb : bT n x
  · obtain ⟨t, htn, rfl⟩ := (bT_iff hwf.1).mp hb
    have hct : cN (nI t) = t := nI_clamp (by have := hwf.1; omega)
    have hf400 := g_fo_400 hwf htn
    by_cases hfo : g_fo τ t = 0
    · refine j_aload_n C 0 0 dX8_read_0 rfl rfl ?_
      refine j_aload_n C 1 0 dX8_read_1 rfl rfl ?_
      refine j_iload_n C 2 1 dX8_read_2 rfl rfl ?_
      refine j_callI (mc := 0) (ms := 0) C 3 (c_X8_isTerm (jl κ) D bd c Z L n (nI (t)) hz) gX8_read_X8_isTerm rfl rfl rfl hd_X8_isTerm (by rw [hR]; exact ⟨Nat.le_of_ble_eq_true rfl, Nat.le_of_ble_eq_true rfl⟩) (ci := 8) rfl 0 (wm_o0 bd c Z L) rfl (Nat.le_of_ble_eq_true rfl) ⟨Nat.zero_le _, Nat.zero_le _⟩ dX8_read_3 (fun r3 _ e3 => ?_)
      refine j_eqi (y := b2 true) (e3.trans (by rw [decide_eq_true hb])) ?_
      refine j_if_ne_b C 6 (b := true) 13 dX8_read_6 (by decide) (fun _ => ?_) (fun h => by cases h)
      refine j_aload_n C 13 0 dX8_read_13 rfl rfl ?_
      refine j_iload_n C 14 1 dX8_read_14 rfl rfl ?_
      refine j_callI (mc := 0) (ms := 0) C 15 (c_X8_faultOf (jl κ) D bd c Z L t hwf htn hE hz) gX8_read_X8_faultOf rfl rfl rfl hd_X8_faultOf (by rw [hR]; exact ⟨Nat.le_of_ble_eq_true rfl, Nat.le_of_ble_eq_true rfl⟩) (ci := 8) rfl 0 (wm_o0 bd c Z L) rfl (Nat.le_of_ble_eq_true rfl) ⟨Nat.zero_le _, Nat.zero_le _⟩ dX8_read_15 (fun r9 Z9 q9 => ?_)
      obtain ⟨e9, ⟨hLF9, hY9, hB9, hI9⟩, hfr9⟩ := q9
      refine j_eqi (y := nI (0)) (e9.trans (by first | rw [hfo] | rfl)) ?_
      have hSM9 : g_SM n τ w st tr Z9 := g_SM_fr hSM hfr9 (by decide)
      have hTY9 : g_TY τ t (g_T τ t) := g_fo_TY hwf htn hLF9 hfo
      have hE9 : g_EM n τ Z9 := hSM9.2.1
      have hz9 : Z9 41 0 = nI n := hSM9.2.2.1
      refine j_if_eq_n C 18 25 (by omega) dX8_read_18 (by decide) (fun _ => ?_) (fun h => absurd h (by omega))
      refine j_iconst C 25 (v := nI 0) dX8_read_25 rfl ?_
      refine j_put C 26 (ci := 8) hL tyX8_ok nmX8 rfl 0 (wm_o0 bd c Z9 L) 0 (by decide) f73 rfl rfl (tyX8_ok 0 (by decide)) rfl rfl (Nat.le_of_ble_eq_true rfl) (wm_p40 bd c Z9 L (nI (0))) dX8_read_26 ?_
      refine j_aload_n C 29 0 dX8_read_29 rfl rfl ?_
      refine j_get C 30 (ci := 8) hL rfl 0 (wm_o0 bd c (upR Z9 40 (fun _ => nI (0))) L) 0 (by decide) f73 rfl (v := .int (nI (0))) rfl dX8_read_30 ?_
      refine j_if_le_n C 33 38 (by omega) dX8_read_33 (by decide) (fun _ => ?_) (fun h => absurd h (by omega))
      refine j_aload_n C 38 0 dX8_read_38 rfl rfl ?_
      refine j_iload_n C 39 1 dX8_read_39 rfl rfl ?_
      refine j_callV (mc := 0) (ms := 0) C 40 (c_X8_beginAt (jl κ) D bd c (upR Z9 40 (fun _ => nI (0))) L t) gX8_read_X8_beginAt rfl rfl rfl hd_X8_beginAt (by rw [hR]; exact ⟨Nat.le_of_ble_eq_true rfl, Nat.le_of_ble_eq_true rfl⟩) (ci := 8) rfl 0 (wm_o0 bd c (upR Z9 40 (fun _ => nI (0))) L) rfl (Nat.le_of_ble_eq_true rfl) ⟨Nat.zero_le _, Nat.zero_le _⟩ dX8_read_40 (fun _ _ => ?_)
      refine j_iconst C 43 (v := nI 0) dX8_read_43 rfl ?_
      refine j_istore_n C 44 (lv' := [(2, .int (nI (0))), (0, .ref (bd 0)), (1, .int (nI (t)))]) dX8_read_44 rfl (by rw [hn]; decide) rfl ?_
      refine j_iconst C 45 (v := nI 1) dX8_read_45 rfl ?_
      refine j_istore_n C 46 (lv' := [(3, .int (nI (1))), (2, .int (nI (0))), (0, .ref (bd 0)), (1, .int (nI (t)))]) dX8_read_46 rfl (by rw [hn]; decide) rfl ?_
      have hfr0 : g_fr [14, 15, 40, 45, 46, 47] Z9 (upR (upR (upR (upR (upR Z9 40 (fun _ => nI (0))) 15 (upd (Z9 15) 0 (nI t))) 47 (fun _ => nI 1)) 46 (fun _ => nI 0)) 45 (fun _ => nI 0)) := g_fr_up (g_fr_up (g_fr_up (g_fr_up (g_fr_up g_fr_rfl (by decide) _) (by decide) _) (by decide) _) (by decide) _) (by decide) _
      have h40z : (upR (upR (upR (upR (upR Z9 40 (fun _ => nI (0))) 15 (upd (Z9 15) 0 (nI t))) 47 (fun _ => nI 1)) 46 (fun _ => nI 0)) 45 (fun _ => nI 0)) 40 0 = nI 0 := rfl
      have loop : ∀ m (p : Nat) (σ : List Nat) (v : Nat) (l : List Nat) (Z1 : ZT), m + p = w.length + 1 → g_RL τ t w σ p v l → g_I τ t (g_T τ t) σ p v → l.length ≤ v → p ≤ w.length → g_QM Z1 σ v l → g_fr [14, 15, 40, 45, 46, 47] Z9 Z1 → Z1 40 0 = nI 0 → ∀ lv, lv_pick lv [0, 1, 2, 3] = [(3, .int (nI 1)), (2, .int (nI p)), (0, .ref (bd 0)), (1, .int (nI t))] → J D κ 0 0 47 lv [] (wm bd c Z1 L) := by
        intro m
        induction m with
        | zero => intro p σ v l Z1 hm hRL hI hl hp; omega
        | succ m ih =>
          intro p σ v l Z1 hm hRL hI hl hp hQM hfr1 h40 lv hlv
          have hSM1 : g_SM n τ w st tr Z1 := g_SM_fr hSM9 hfr1 (by decide)
          have hwd1 := hSM1.2.2.2.1
          have hlet : Z1 42 0 = nI w.length := hwd1.2.1
          have hE1 := hSM1.2.1
          have hB1 : g_BM τ t Z1 := g_BM_fr hfr1 (by decide) hB9
          have hY1 : g_YM τ t (g_T τ t) Z1 := g_YM_fr hfr1 (by decide) hY9
          refine j_lv [0, 1, 2, 3] hlv ?_
          by_cases hpl : w.length ≤ p
          · refine j_iload_n C 47 0 dX8_read_47 rfl rfl ?_
            refine j_iconst C 48 (v := nI 1) dX8_read_48 rfl ?_
            refine j_icmp_ne_n C 49 91 (by omega) (by omega) dX8_read_49 (by decide) (fun h => absurd h (by omega)) (fun _ => ?_)
            refine j_aload_n C 52 2 dX8_read_52 rfl rfl ?_
            refine j_iload_n C 53 1 dX8_read_53 rfl rfl ?_
            refine j_aload_n C 54 2 dX8_read_54 rfl rfl ?_
            refine j_get C 55 (ci := 8) hL rfl 0 (wm_o0 bd c Z1 L) 13 (by decide) f113 rfl (v := .int (Z1 42 0)) rfl dX8_read_55 ?_
            refine j_eqi hlet ?_
            refine j_icmp_ge_n C 58 70 (by omega) (by omega) dX8_read_58 (by decide) (fun _ => ?_) (fun h => absurd h (by omega))
            refine j_iconst C 70 (v := -1) dX8_read_70 rfl ?_
            refine j_callI (mc := 0) (ms := 0) C 71 (c_X8_go (jl κ) D bd c Z1 L (g_T τ t) (g_nx w p) (-1) 2016 v σ l (fun σ v l => g_RL τ t w σ p v l ∧ g_I τ t (g_T τ t) σ p v ∧ l.length ≤ v) hwf htn hE1 hB1 hY1 hTY9 (by rw [g_nx_out hpl]; rfl) (by rw [g_nx_out hpl]; decide) hQM ⟨hRL, hI, hl⟩ (fun t1 σ1 v1 l1 q h0 => ⟨g_RL_st q.1 (by have := g_I_le hwf htn q.2.1; omega) h0, g_I_st hwf htn hTY9 _ q.2.1 h0, Nat.le_trans (g_l2 _ _) (by omega)⟩) (fun σ1 v1 l1 q => by have := g_I_le hwf htn q.2.1; exact ⟨by omega, by omega, by omega, q.2.1.1⟩)) gX8_read_X8_go rfl rfl rfl hd_X8_go (by rw [hR]; exact ⟨Nat.le_of_ble_eq_true rfl, Nat.le_of_ble_eq_true rfl⟩) (ci := 8) rfl 0 (wm_o0 bd c Z1 L) rfl (Nat.le_of_ble_eq_true rfl) ⟨Nat.zero_le _, Nat.zero_le _⟩ dX8_read_71 (fun r71 Z2 q71 => ?_)
            obtain ⟨⟨σ2, v2, l2, ⟨hRL2, hI2, hl2⟩, hcs⟩, hfr71⟩ := q71
            have hle2 := g_I_le hwf htn hI2
            have hfr2 : g_fr [14, 15, 40, 45, 46, 47] Z9 Z2 := g_fr_trans hfr1 (g_fr_sub hfr71 (by decide))
            have h402 : Z2 40 0 = nI 0 := (congrFun (hfr71 40 (by decide)) 0).trans h40
            have hSM1 : g_SM n τ w st tr Z2 := g_SM_fr hSM9 hfr2 (by decide)
            have hlet : Z2 42 0 = nI w.length := hSM1.2.2.2.1.2.1
            rcases hcs with ⟨rfl, er, hM2⟩ | ⟨t2, σ3, rfl, hs2, er, hM2⟩ | ⟨t2, σ3, rfl, hs2, er⟩
            · have hRD := g_RL_end hRL2 (by omega)
              refine j_eqi (y := nI 0) er ?_
              refine j_istore_n C 74 (lv' := [(3, .int (nI (0))), (2, .int (nI (p))), (0, .ref (bd 0)), (1, .int (nI (t)))]) dX8_read_74 rfl (by rw [hn]; decide) rfl ?_
              refine j_iload_n C 75 0 dX8_read_75 rfl rfl ?_
              refine j_iconst C 76 (v := nI 1) dX8_read_76 rfl ?_
              refine j_icmp_ne_n C 77 86 (by omega) (by omega) dX8_read_77 (by decide) (fun _ => ?_) (fun h => absurd h (by omega))
              refine j_iload_n C 86 1 dX8_read_86 rfl rfl ?_
              refine j_istore_n C 87 (lv' := [(2, .int (nI (p))), (3, .int (nI (0))), (0, .ref (bd 0)), (1, .int (nI (t)))]) dX8_read_87 rfl (by rw [hn]; decide) rfl ?_
              refine j_goto C 88 47 dX8_read_88 (by decide) ?_
              refine j_iload_n C 47 1 dX8_read_47 rfl rfl ?_
              refine j_iconst C 48 (v := nI 1) dX8_read_48 rfl ?_
              refine j_icmp_ne_n C 49 91 (by omega) (by omega) dX8_read_49 (by decide) (fun _ => ?_) (fun h => absurd h (by omega))
              refine j_iload_n C 91 1 dX8_read_91 rfl rfl ?_
              refine j_if_lt_n C 92 103 (by omega) dX8_read_92 (by decide) (fun h => absurd h (by omega)) (fun _ => ?_)
              refine j_iload_n C 95 0 dX8_read_95 rfl rfl ?_
              refine j_aload_n C 96 2 dX8_read_96 rfl rfl ?_
              refine j_get C 97 (ci := 8) hL rfl 0 (wm_o0 bd c Z2 L) 13 (by decide) f113 rfl (v := .int (Z2 42 0)) rfl dX8_read_97 ?_
              refine j_eqi hlet ?_
              refine j_icmp_ge_n C 100 114 (by omega) (by omega) dX8_read_100 (by decide) (fun h100 => ?_) (fun h100 => ?_)
              · have hpw : p = w.length := by omega
                refine j_aload_n C 114 2 dX8_read_114 rfl rfl ?_
                refine j_iconst C 115 (v := -1) dX8_read_115 rfl ?_
                refine j_put C 116 (ci := 8) hL tyX8_ok nmX8 rfl 0 (wm_o0 bd c Z2 L) 15 (by decide) f47 rfl rfl (tyX8_ok 15 (by decide)) rfl rfl (Nat.le_of_ble_eq_true rfl) (wm_p43 bd c Z2 L (-1)) dX8_read_116 ?_
                refine j_aload_n C 119 2 dX8_read_119 rfl rfl ?_
                refine j_aload_n C 120 2 dX8_read_120 rfl rfl ?_
                refine j_get C 121 (ci := 8) hL rfl 0 (wm_o0 bd c (upR Z2 43 (fun _ => -1)) L) 18 (by decide) f126 rfl (v := .int (Z2 45 0)) rfl dX8_read_121 ?_
                refine j_eqi hM2.2.2.2.1 ?_
                refine j_put C 124 (ci := 8) hL tyX8_ok nmX8 rfl 0 (wm_o0 bd c (upR Z2 43 (fun _ => -1)) L) 16 (by decide) f138 rfl rfl (tyX8_ok 16 (by decide)) rfl rfl (Nat.le_of_ble_eq_true rfl) (wm_p44 bd c (upR Z2 43 (fun _ => -1)) L (nI (l2.length))) dX8_read_124 ?_
                refine j_iconst C 127 (v := nI 0) dX8_read_127 rfl ?_
                refine j_istore C 128 (lv' := [(4, .int (nI (0))), (2, .int (nI (p))), (3, .int (nI (0))), (0, .ref (bd 0)), (1, .int (nI (t)))]) dX8_read_128 (by rw [hn]; decide) rfl ?_
                have hM45 : Z2 45 0 = nI l2.length := hM2.2.2.2.1
                have hM14 : g_ar (Z2 14) 0 l2 := hM2.2.2.2.2
                have loop3 : ∀ q i (f3 : Nat → Int32), q + i = l2.length → (∀ j (hj : j < l2.length), j < i → f3 j = nI l2[j]) → ∀ lv, lv_pick lv [0, 1] = [(4, .int (nI i)), (0, .ref (bd 0))] → J D κ 0 0 130 lv [] (wm bd c (upR (upR (upR Z2 43 (fun _ => -1)) 44 (fun _ => nI (l2.length))) 13 f3) L) := by
                  intro q
                  induction q with
                  | zero =>
                    intro i f3 hq hf lv hlv
                    obtain rfl : i = l2.length := by omega
                    refine j_lv [0, 1] hlv ?_
                    refine j_iload C 130 0 dX8_read_130 rfl ?_
                    refine j_aload_n C 132 1 dX8_read_132 rfl rfl ?_
                    refine j_get C 133 (ci := 8) hL rfl 0 (wm_o0 bd c (upR (upR (upR Z2 43 (fun _ => -1)) 44 (fun _ => nI (l2.length))) 13 f3) L) 18 (by decide) f126 rfl (v := .int (Z2 45 0)) rfl dX8_read_133 ?_
                    refine j_eqi hM45 ?_
                    refine j_icmp_ge_n C 136 159 (by omega) (by omega) dX8_read_136 (by decide) (fun _ => ?_) (fun h => absurd h (by omega))
                    refine j_aload_n C 159 1 dX8_read_159 rfl rfl ?_
                    refine j_get C 160 (ci := 8) hL rfl 0 (wm_o0 bd c (upR (upR (upR Z2 43 (fun _ => -1)) 44 (fun _ => nI (l2.length))) 13 f3) L) 20 (by decide) f119 rfl (v := .int (Z2 46 0)) rfl dX8_read_160 ?_
                    refine j_eqi hM2.2.2.1 ?_
                    have hk9 : k_read n τ w (nI t) = 0 := by unfold k_read; rw [if_neg (fun z => z hb), if_neg (by rw [hct]; exact fun z => z hfo), hct, if_neg (fun z => z ⟨by rw [hRD], by rw [hRD]; exact hpw⟩)]
                    exact j_ireti C hr E (Nat.le_refl _) (Nat.le_refl _) rfl (upR (upR (upR Z2 43 (fun _ => -1)) 44 (fun _ => nI (l2.length))) 13 f3) ⟨by rw [hk9]; exact h402, fun _ => by rw [hct, hRD], by rw [if_pos hk9, if_pos hk9, hct, hRD]; exact ⟨hwf, hSM1.2.1, hSM1.2.2.1, hSM1.2.2.2.1, rfl, rfl, fun j hj => by rw [Nat.zero_add]; exact hf j hj hj, by show l2.length ≤ 2100; omega⟩⟩ rfl dX8_read_163
                  | succ q ih3 =>
                    intro i f3 hq hf lv hlv
                    have hil : i < l2.length := by omega
                    have h14i : Z2 14 i = nI l2[i] := by have q9 := hM14 i hil; rw [Nat.zero_add] at q9; exact q9
                    refine j_lv [0, 1] hlv ?_
                    refine j_iload C 130 0 dX8_read_130 rfl ?_
                    refine j_aload_n C 132 1 dX8_read_132 rfl rfl ?_
                    refine j_get C 133 (ci := 8) hL rfl 0 (wm_o0 bd c (upR (upR (upR Z2 43 (fun _ => -1)) 44 (fun _ => nI (l2.length))) 13 f3) L) 18 (by decide) f126 rfl (v := .int (Z2 45 0)) rfl dX8_read_133 ?_
                    refine j_eqi hM45 ?_
                    refine j_icmp_ge_n C 136 159 (by omega) (by omega) dX8_read_136 (by decide) (fun h => absurd h (by omega)) (fun _ => ?_)
                    refine j_aload_n C 139 1 dX8_read_139 rfl rfl ?_
                    refine j_get C 140 (ci := 8) hL rfl 0 (wm_o0 bd c (upR (upR (upR Z2 43 (fun _ => -1)) 44 (fun _ => nI (l2.length))) 13 f3) L) 17 (by decide) f51 rfl (v := .ref (bd 13)) rfl dX8_read_140 ?_
                    refine j_iload C 143 0 dX8_read_143 rfl ?_
                    refine j_aload_n C 145 1 dX8_read_145 rfl rfl ?_
                    refine j_get C 146 (ci := 8) hL rfl 0 (wm_o0 bd c (upR (upR (upR Z2 43 (fun _ => -1)) 44 (fun _ => nI (l2.length))) 13 f3) L) 19 (by decide) f54 rfl (v := .ref (bd 14)) rfl dX8_read_146 ?_
                    refine j_iload C 149 0 dX8_read_149 rfl ?_
                    refine j_iald C 151 14 0 (f := Z2 14) (wm_a14 bd c (upR (upR (upR Z2 43 (fun _ => -1)) 44 (fun _ => nI (l2.length))) 13 f3) L) rfl (by omega) (by decide) dX8_read_151 ?_
                    refine j_eqi h14i ?_
                    refine j_iast C 152 13 0 (f := f3) (wm_a13 bd c (upR (upR (upR Z2 43 (fun _ => -1)) 44 (fun _ => nI (l2.length))) 13 f3) L) rfl (by omega) (by decide) (wm_s13 bd c (upR (upR (upR Z2 43 (fun _ => -1)) 44 (fun _ => nI (l2.length))) 13 f3) L (upd (f3) (i) (nI (l2[i])))) dX8_read_152 ?_
                    refine j_iinc C 153 0 (v := (nI (i + 1))) (lv' := [(4, .int (nI (i + 1))), (0, .ref (bd 0))]) dX8_read_153 rfl (nI_add (i) 1) (by rw [hn]; decide) rfl ?_
                    refine j_goto C 156 130 dX8_read_156 (by decide) ?_
                    refine j_lv [0, 1] rfl (j_zz (upR_upR _ 13 f3 (upd f3 i (nI l2[i]))) (ih3 (i + 1) (upd f3 i (nI l2[i])) (by omega) (fun j hj hji => ?_) _ rfl))
                    by_cases e : j = i
                    · subst e; rw [e_upd_same]
                    · rw [e_upd_ne _ _ e]; exact hf j hj (by omega)
                refine j_zz (upR_id _ 13) (j_lv [0, 3] rfl (loop3 l2.length 0 (Z2 13) (by omega) (fun j hj hji => by omega) _ rfl))
              · have hRp : (g_RD τ t w).2.1 = p := by rw [hRD]
                have hno : ¬ ((g_RD τ t w).1 = true ∧ (g_RD τ t w).2.1 = w.length) := fun z => by rw [hRD] at z; have := z.2; simp at this; omega
                refine j_aload_n C 103 2 dX8_read_103 rfl rfl ?_
                refine j_iload_n C 104 0 dX8_read_104 rfl rfl ?_
                refine j_put C 105 (ci := 8) hL tyX8_ok nmX8 rfl 0 (wm_o0 bd c Z2 L) 15 (by decide) f47 rfl rfl (tyX8_ok 15 (by decide)) rfl rfl (Nat.le_of_ble_eq_true rfl) (wm_p43 bd c Z2 L (nI (p))) dX8_read_105 ?_
                refine j_aload_n C 108 2 dX8_read_108 rfl rfl ?_
                refine j_iconst C 109 (v := nI 3) dX8_read_109 rfl ?_
                refine j_callI (mc := 0) (ms := 0) C 110 (c_X8_fail (jl κ) D bd c (upR Z2 43 (fun _ => nI (p))) L (nI 3)) gX8_read_X8_fail rfl rfl rfl hd_X8_fail (by rw [hR]; exact ⟨Nat.le_of_ble_eq_true rfl, Nat.le_of_ble_eq_true rfl⟩) (ci := 8) rfl 0 (wm_o0 bd c (upR Z2 43 (fun _ => nI (p))) L) rfl (Nat.le_of_ble_eq_true rfl) ⟨Nat.zero_le _, Nat.zero_le _⟩ dX8_read_110 (fun r110 _ e110 => ?_)
                subst e110
                have hk9 : k_read n τ w (nI t) = 3 := by unfold k_read; rw [if_neg (fun z => z hb), if_neg (by rw [hct]; exact fun z => z hfo), hct, if_pos hno]
                exact j_ireti C hr E (Nat.le_refl _) (Nat.le_refl _) rfl (upR (upR Z2 43 (fun _ => nI (p))) 40 (fun _ => nI (3))) ⟨by rw [hk9]; rfl, fun z => absurd z (by rw [hk9]; decide), by rw [hk9, hct, hRp]; exact g_SM_40 (g_SM_st hSM1) _⟩ rfl dX8_read_113
            · have hx8 : g_nx w p < 8 := g_st_let (S := g_T τ t) (root := t) hwf (g_P_lt hwf htn (hI2.1 t2 (by simp))) (by rw [hs2])
              have hp2 : p < w.length := Nat.lt_of_not_le (fun z => by rw [g_nx_out z] at hx8; omega)
              have hI3 := g_I_let hwf htn hTY9 _ hI2 (by rw [hs2])
              rw [hs2] at hI3
              refine j_eqi (y := nI 1) er ?_
              refine j_istore_n C 74 (lv' := [(3, .int (nI (1))), (2, .int (nI (p))), (0, .ref (bd 0)), (1, .int (nI (t)))]) dX8_read_74 rfl (by rw [hn]; decide) rfl ?_
              refine j_iload_n C 75 0 dX8_read_75 rfl rfl ?_
              refine j_iconst C 76 (v := nI 1) dX8_read_76 rfl ?_
              refine j_icmp_ne_n C 77 86 (by omega) (by omega) dX8_read_77 (by decide) (fun h => absurd h (by omega)) (fun _ => ?_)
              refine j_iload_n C 80 1 dX8_read_80 rfl rfl ?_
              refine j_iconst C 81 (v := nI 1) dX8_read_81 rfl ?_
              refine j_iadd_e C 82 dX8_read_82 (nI_add _ _) ?_
              refine j_goto C 83 87 dX8_read_83 (by decide) ?_
              refine j_istore_n C 87 (lv' := [(2, .int (nI (p + 1))), (3, .int (nI (1))), (0, .ref (bd 0)), (1, .int (nI (t)))]) dX8_read_87 rfl (by rw [hn]; decide) rfl ?_
              refine j_goto C 88 47 dX8_read_88 (by decide) ?_
              exact j_lv [1, 0, 2, 3] rfl (ih (p + 1) σ3 (v2 + 1) l2 Z2 (by omega) (g_RL_let hRL2 (by omega) hs2) hI3 (by omega) (by omega) hM2 hfr2 h402 _ rfl)
            · have hRD := g_RL_no hRL2 (by omega) hs2
              have hRp : (g_RD τ t w).2.1 = p := by rw [hRD]
              have hno : ¬ ((g_RD τ t w).1 = true ∧ (g_RD τ t w).2.1 = w.length) := fun z => by rw [hRD] at z; cases z.1
              refine j_eqi (y := -1) er ?_
              refine j_istore_n C 74 (lv' := [(3, .int (-1)), (2, .int (nI (p))), (0, .ref (bd 0)), (1, .int (nI (t)))]) dX8_read_74 rfl (by rw [hn]; decide) rfl ?_
              refine j_iload_n C 75 0 dX8_read_75 rfl rfl ?_
              refine j_iconst C 76 (v := nI 1) dX8_read_76 rfl ?_
              refine j_icmp_ne C 77 86 dX8_read_77 (by decide) (fun _ => ?_) (fun h => absurd h (by decide))
              refine j_iload_n C 86 1 dX8_read_86 rfl rfl ?_
              refine j_istore_n C 87 (lv' := [(2, .int (nI (p))), (3, .int (-1)), (0, .ref (bd 0)), (1, .int (nI (t)))]) dX8_read_87 rfl (by rw [hn]; decide) rfl ?_
              refine j_goto C 88 47 dX8_read_88 (by decide) ?_
              refine j_iload_n C 47 1 dX8_read_47 rfl rfl ?_
              refine j_iconst C 48 (v := nI 1) dX8_read_48 rfl ?_
              refine j_icmp_ne C 49 91 dX8_read_49 (by decide) (fun _ => ?_) (fun h => absurd h (by decide))
              refine j_iload_n C 91 1 dX8_read_91 rfl rfl ?_
              refine j_if_lt C 92 103 dX8_read_92 (by decide) (fun _ => ?_) (fun h => absurd (by decide) h)
              refine j_aload_n C 103 2 dX8_read_103 rfl rfl ?_
              refine j_iload_n C 104 0 dX8_read_104 rfl rfl ?_
              refine j_put C 105 (ci := 8) hL tyX8_ok nmX8 rfl 0 (wm_o0 bd c Z2 L) 15 (by decide) f47 rfl rfl (tyX8_ok 15 (by decide)) rfl rfl (Nat.le_of_ble_eq_true rfl) (wm_p43 bd c Z2 L (nI (p))) dX8_read_105 ?_
              refine j_aload_n C 108 2 dX8_read_108 rfl rfl ?_
              refine j_iconst C 109 (v := nI 3) dX8_read_109 rfl ?_
              refine j_callI (mc := 0) (ms := 0) C 110 (c_X8_fail (jl κ) D bd c (upR Z2 43 (fun _ => nI (p))) L (nI 3)) gX8_read_X8_fail rfl rfl rfl hd_X8_fail (by rw [hR]; exact ⟨Nat.le_of_ble_eq_true rfl, Nat.le_of_ble_eq_true rfl⟩) (ci := 8) rfl 0 (wm_o0 bd c (upR Z2 43 (fun _ => nI (p))) L) rfl (Nat.le_of_ble_eq_true rfl) ⟨Nat.zero_le _, Nat.zero_le _⟩ dX8_read_110 (fun r110 _ e110 => ?_)
              subst e110
              have hk9 : k_read n τ w (nI t) = 3 := by unfold k_read; rw [if_neg (fun z => z hb), if_neg (by rw [hct]; exact fun z => z hfo), hct, if_pos hno]
              exact j_ireti C hr E (Nat.le_refl _) (Nat.le_refl _) rfl (upR (upR Z2 43 (fun _ => nI (p))) 40 (fun _ => nI (3))) ⟨by rw [hk9]; rfl, fun z => absurd z (by rw [hk9]; decide), by rw [hk9, hct, hRp]; exact g_SM_40 (g_SM_st hSM1) _⟩ rfl dX8_read_113
          · have hx8 := (g_WD_at hwd1 (show p < w.length by omega)).2
            refine j_iload_n C 47 0 dX8_read_47 rfl rfl ?_
            refine j_iconst C 48 (v := nI 1) dX8_read_48 rfl ?_
            refine j_icmp_ne_n C 49 91 (by omega) (by omega) dX8_read_49 (by decide) (fun h => absurd h (by omega)) (fun _ => ?_)
            refine j_aload_n C 52 2 dX8_read_52 rfl rfl ?_
            refine j_iload_n C 53 1 dX8_read_53 rfl rfl ?_
            refine j_aload_n C 54 2 dX8_read_54 rfl rfl ?_
            refine j_get C 55 (ci := 8) hL rfl 0 (wm_o0 bd c Z1 L) 13 (by decide) f113 rfl (v := .int (Z1 42 0)) rfl dX8_read_55 ?_
            refine j_eqi hlet ?_
            refine j_icmp_ge_n C 58 70 (by omega) (by omega) dX8_read_58 (by decide) (fun h => absurd h (by omega)) (fun _ => ?_)
            refine j_aload_n C 61 2 dX8_read_61 rfl rfl ?_
            refine j_get C 62 (ci := 8) hL rfl 0 (wm_o0 bd c Z1 L) 14 (by decide) f44 rfl (v := .ref (bd 12)) rfl dX8_read_62 ?_
            refine j_iload_n C 65 1 dX8_read_65 rfl rfl ?_
            refine j_iald C 66 12 0 (f := Z1 12) (wm_a12 bd c Z1 L) rfl (by omega) (by decide) dX8_read_66 ?_
            refine j_eqi (g_WD_at hwd1 (by omega)).1 ?_
            refine j_goto C 67 71 dX8_read_67 (by decide) ?_
            refine j_callI (mc := 0) (ms := 0) C 71 (c_X8_go (jl κ) D bd c Z1 L (g_T τ t) (g_nx w p) (nI (g_nx w p)) 2016 v σ l (fun σ v l => g_RL τ t w σ p v l ∧ g_I τ t (g_T τ t) σ p v ∧ l.length ≤ v) hwf htn hE1 hB1 hY1 hTY9 (by rw [if_pos hx8]) (by omega) hQM ⟨hRL, hI, hl⟩ (fun t1 σ1 v1 l1 q h0 => ⟨g_RL_st q.1 (by have := g_I_le hwf htn q.2.1; omega) h0, g_I_st hwf htn hTY9 _ q.2.1 h0, Nat.le_trans (g_l2 _ _) (by omega)⟩) (fun σ1 v1 l1 q => by have := g_I_le hwf htn q.2.1; exact ⟨by omega, by omega, by omega, q.2.1.1⟩)) gX8_read_X8_go rfl rfl rfl hd_X8_go (by rw [hR]; exact ⟨Nat.le_of_ble_eq_true rfl, Nat.le_of_ble_eq_true rfl⟩) (ci := 8) rfl 0 (wm_o0 bd c Z1 L) rfl (Nat.le_of_ble_eq_true rfl) ⟨Nat.zero_le _, Nat.zero_le _⟩ dX8_read_71 (fun r71 Z2 q71 => ?_)
            obtain ⟨⟨σ2, v2, l2, ⟨hRL2, hI2, hl2⟩, hcs⟩, hfr71⟩ := q71
            have hle2 := g_I_le hwf htn hI2
            have hfr2 : g_fr [14, 15, 40, 45, 46, 47] Z9 Z2 := g_fr_trans hfr1 (g_fr_sub hfr71 (by decide))
            have h402 : Z2 40 0 = nI 0 := (congrFun (hfr71 40 (by decide)) 0).trans h40
            have hSM1 : g_SM n τ w st tr Z2 := g_SM_fr hSM9 hfr2 (by decide)
            have hlet : Z2 42 0 = nI w.length := hSM1.2.2.2.1.2.1
            rcases hcs with ⟨rfl, er, hM2⟩ | ⟨t2, σ3, rfl, hs2, er, hM2⟩ | ⟨t2, σ3, rfl, hs2, er⟩
            · have hRD := g_RL_end hRL2 (by omega)
              refine j_eqi (y := nI 0) er ?_
              refine j_istore_n C 74 (lv' := [(3, .int (nI (0))), (2, .int (nI (p))), (0, .ref (bd 0)), (1, .int (nI (t)))]) dX8_read_74 rfl (by rw [hn]; decide) rfl ?_
              refine j_iload_n C 75 0 dX8_read_75 rfl rfl ?_
              refine j_iconst C 76 (v := nI 1) dX8_read_76 rfl ?_
              refine j_icmp_ne_n C 77 86 (by omega) (by omega) dX8_read_77 (by decide) (fun _ => ?_) (fun h => absurd h (by omega))
              refine j_iload_n C 86 1 dX8_read_86 rfl rfl ?_
              refine j_istore_n C 87 (lv' := [(2, .int (nI (p))), (3, .int (nI (0))), (0, .ref (bd 0)), (1, .int (nI (t)))]) dX8_read_87 rfl (by rw [hn]; decide) rfl ?_
              refine j_goto C 88 47 dX8_read_88 (by decide) ?_
              refine j_iload_n C 47 1 dX8_read_47 rfl rfl ?_
              refine j_iconst C 48 (v := nI 1) dX8_read_48 rfl ?_
              refine j_icmp_ne_n C 49 91 (by omega) (by omega) dX8_read_49 (by decide) (fun _ => ?_) (fun h => absurd h (by omega))
              refine j_iload_n C 91 1 dX8_read_91 rfl rfl ?_
              refine j_if_lt_n C 92 103 (by omega) dX8_read_92 (by decide) (fun h => absurd h (by omega)) (fun _ => ?_)
              refine j_iload_n C 95 0 dX8_read_95 rfl rfl ?_
              refine j_aload_n C 96 2 dX8_read_96 rfl rfl ?_
              refine j_get C 97 (ci := 8) hL rfl 0 (wm_o0 bd c Z2 L) 13 (by decide) f113 rfl (v := .int (Z2 42 0)) rfl dX8_read_97 ?_
              refine j_eqi hlet ?_
              refine j_icmp_ge_n C 100 114 (by omega) (by omega) dX8_read_100 (by decide) (fun h100 => ?_) (fun h100 => ?_)
              · have hpw : p = w.length := by omega
                refine j_aload_n C 114 2 dX8_read_114 rfl rfl ?_
                refine j_iconst C 115 (v := -1) dX8_read_115 rfl ?_
                refine j_put C 116 (ci := 8) hL tyX8_ok nmX8 rfl 0 (wm_o0 bd c Z2 L) 15 (by decide) f47 rfl rfl (tyX8_ok 15 (by decide)) rfl rfl (Nat.le_of_ble_eq_true rfl) (wm_p43 bd c Z2 L (-1)) dX8_read_116 ?_
                refine j_aload_n C 119 2 dX8_read_119 rfl rfl ?_
                refine j_aload_n C 120 2 dX8_read_120 rfl rfl ?_
                refine j_get C 121 (ci := 8) hL rfl 0 (wm_o0 bd c (upR Z2 43 (fun _ => -1)) L) 18 (by decide) f126 rfl (v := .int (Z2 45 0)) rfl dX8_read_121 ?_
                refine j_eqi hM2.2.2.2.1 ?_
                refine j_put C 124 (ci := 8) hL tyX8_ok nmX8 rfl 0 (wm_o0 bd c (upR Z2 43 (fun _ => -1)) L) 16 (by decide) f138 rfl rfl (tyX8_ok 16 (by decide)) rfl rfl (Nat.le_of_ble_eq_true rfl) (wm_p44 bd c (upR Z2 43 (fun _ => -1)) L (nI (l2.length))) dX8_read_124 ?_
                refine j_iconst C 127 (v := nI 0) dX8_read_127 rfl ?_
                refine j_istore C 128 (lv' := [(4, .int (nI (0))), (2, .int (nI (p))), (3, .int (nI (0))), (0, .ref (bd 0)), (1, .int (nI (t)))]) dX8_read_128 (by rw [hn]; decide) rfl ?_
                have hM45 : Z2 45 0 = nI l2.length := hM2.2.2.2.1
                have hM14 : g_ar (Z2 14) 0 l2 := hM2.2.2.2.2
                have loop3 : ∀ q i (f3 : Nat → Int32), q + i = l2.length → (∀ j (hj : j < l2.length), j < i → f3 j = nI l2[j]) → ∀ lv, lv_pick lv [0, 1] = [(4, .int (nI i)), (0, .ref (bd 0))] → J D κ 0 0 130 lv [] (wm bd c (upR (upR (upR Z2 43 (fun _ => -1)) 44 (fun _ => nI (l2.length))) 13 f3) L) := by
                  intro q
                  induction q with
                  | zero =>
                    intro i f3 hq hf lv hlv
                    obtain rfl : i = l2.length := by omega
                    refine j_lv [0, 1] hlv ?_
                    refine j_iload C 130 0 dX8_read_130 rfl ?_
                    refine j_aload_n C 132 1 dX8_read_132 rfl rfl ?_
                    refine j_get C 133 (ci := 8) hL rfl 0 (wm_o0 bd c (upR (upR (upR Z2 43 (fun _ => -1)) 44 (fun _ => nI (l2.length))) 13 f3) L) 18 (by decide) f126 rfl (v := .int (Z2 45 0)) rfl dX8_read_133 ?_
                    refine j_eqi hM45 ?_
                    refine j_icmp_ge_n C 136 159 (by omega) (by omega) dX8_read_136 (by decide) (fun _ => ?_) (fun h => absurd h (by omega))
                    refine j_aload_n C 159 1 dX8_read_159 rfl rfl ?_
                    refine j_get C 160 (ci := 8) hL rfl 0 (wm_o0 bd c (upR (upR (upR Z2 43 (fun _ => -1)) 44 (fun _ => nI (l2.length))) 13 f3) L) 20 (by decide) f119 rfl (v := .int (Z2 46 0)) rfl dX8_read_160 ?_
                    refine j_eqi hM2.2.2.1 ?_
                    have hk9 : k_read n τ w (nI t) = 0 := by unfold k_read; rw [if_neg (fun z => z hb), if_neg (by rw [hct]; exact fun z => z hfo), hct, if_neg (fun z => z ⟨by rw [hRD], by rw [hRD]; exact hpw⟩)]
                    exact j_ireti C hr E (Nat.le_refl _) (Nat.le_refl _) rfl (upR (upR (upR Z2 43 (fun _ => -1)) 44 (fun _ => nI (l2.length))) 13 f3) ⟨by rw [hk9]; exact h402, fun _ => by rw [hct, hRD], by rw [if_pos hk9, if_pos hk9, hct, hRD]; exact ⟨hwf, hSM1.2.1, hSM1.2.2.1, hSM1.2.2.2.1, rfl, rfl, fun j hj => by rw [Nat.zero_add]; exact hf j hj hj, by show l2.length ≤ 2100; omega⟩⟩ rfl dX8_read_163
                  | succ q ih3 =>
                    intro i f3 hq hf lv hlv
                    have hil : i < l2.length := by omega
                    have h14i : Z2 14 i = nI l2[i] := by have q9 := hM14 i hil; rw [Nat.zero_add] at q9; exact q9
                    refine j_lv [0, 1] hlv ?_
                    refine j_iload C 130 0 dX8_read_130 rfl ?_
                    refine j_aload_n C 132 1 dX8_read_132 rfl rfl ?_
                    refine j_get C 133 (ci := 8) hL rfl 0 (wm_o0 bd c (upR (upR (upR Z2 43 (fun _ => -1)) 44 (fun _ => nI (l2.length))) 13 f3) L) 18 (by decide) f126 rfl (v := .int (Z2 45 0)) rfl dX8_read_133 ?_
                    refine j_eqi hM45 ?_
                    refine j_icmp_ge_n C 136 159 (by omega) (by omega) dX8_read_136 (by decide) (fun h => absurd h (by omega)) (fun _ => ?_)
                    refine j_aload_n C 139 1 dX8_read_139 rfl rfl ?_
                    refine j_get C 140 (ci := 8) hL rfl 0 (wm_o0 bd c (upR (upR (upR Z2 43 (fun _ => -1)) 44 (fun _ => nI (l2.length))) 13 f3) L) 17 (by decide) f51 rfl (v := .ref (bd 13)) rfl dX8_read_140 ?_
                    refine j_iload C 143 0 dX8_read_143 rfl ?_
                    refine j_aload_n C 145 1 dX8_read_145 rfl rfl ?_
                    refine j_get C 146 (ci := 8) hL rfl 0 (wm_o0 bd c (upR (upR (upR Z2 43 (fun _ => -1)) 44 (fun _ => nI (l2.length))) 13 f3) L) 19 (by decide) f54 rfl (v := .ref (bd 14)) rfl dX8_read_146 ?_
                    refine j_iload C 149 0 dX8_read_149 rfl ?_
                    refine j_iald C 151 14 0 (f := Z2 14) (wm_a14 bd c (upR (upR (upR Z2 43 (fun _ => -1)) 44 (fun _ => nI (l2.length))) 13 f3) L) rfl (by omega) (by decide) dX8_read_151 ?_
                    refine j_eqi h14i ?_
                    refine j_iast C 152 13 0 (f := f3) (wm_a13 bd c (upR (upR (upR Z2 43 (fun _ => -1)) 44 (fun _ => nI (l2.length))) 13 f3) L) rfl (by omega) (by decide) (wm_s13 bd c (upR (upR (upR Z2 43 (fun _ => -1)) 44 (fun _ => nI (l2.length))) 13 f3) L (upd (f3) (i) (nI (l2[i])))) dX8_read_152 ?_
                    refine j_iinc C 153 0 (v := (nI (i + 1))) (lv' := [(4, .int (nI (i + 1))), (0, .ref (bd 0))]) dX8_read_153 rfl (nI_add (i) 1) (by rw [hn]; decide) rfl ?_
                    refine j_goto C 156 130 dX8_read_156 (by decide) ?_
                    refine j_lv [0, 1] rfl (j_zz (upR_upR _ 13 f3 (upd f3 i (nI l2[i]))) (ih3 (i + 1) (upd f3 i (nI l2[i])) (by omega) (fun j hj hji => ?_) _ rfl))
                    by_cases e : j = i
                    · subst e; rw [e_upd_same]
                    · rw [e_upd_ne _ _ e]; exact hf j hj (by omega)
                refine j_zz (upR_id _ 13) (j_lv [0, 3] rfl (loop3 l2.length 0 (Z2 13) (by omega) (fun j hj hji => by omega) _ rfl))
              · have hRp : (g_RD τ t w).2.1 = p := by rw [hRD]
                have hno : ¬ ((g_RD τ t w).1 = true ∧ (g_RD τ t w).2.1 = w.length) := fun z => by rw [hRD] at z; have := z.2; simp at this; omega
                refine j_aload_n C 103 2 dX8_read_103 rfl rfl ?_
                refine j_iload_n C 104 0 dX8_read_104 rfl rfl ?_
                refine j_put C 105 (ci := 8) hL tyX8_ok nmX8 rfl 0 (wm_o0 bd c Z2 L) 15 (by decide) f47 rfl rfl (tyX8_ok 15 (by decide)) rfl rfl (Nat.le_of_ble_eq_true rfl) (wm_p43 bd c Z2 L (nI (p))) dX8_read_105 ?_
                refine j_aload_n C 108 2 dX8_read_108 rfl rfl ?_
                refine j_iconst C 109 (v := nI 3) dX8_read_109 rfl ?_
                refine j_callI (mc := 0) (ms := 0) C 110 (c_X8_fail (jl κ) D bd c (upR Z2 43 (fun _ => nI (p))) L (nI 3)) gX8_read_X8_fail rfl rfl rfl hd_X8_fail (by rw [hR]; exact ⟨Nat.le_of_ble_eq_true rfl, Nat.le_of_ble_eq_true rfl⟩) (ci := 8) rfl 0 (wm_o0 bd c (upR Z2 43 (fun _ => nI (p))) L) rfl (Nat.le_of_ble_eq_true rfl) ⟨Nat.zero_le _, Nat.zero_le _⟩ dX8_read_110 (fun r110 _ e110 => ?_)
                subst e110
                have hk9 : k_read n τ w (nI t) = 3 := by unfold k_read; rw [if_neg (fun z => z hb), if_neg (by rw [hct]; exact fun z => z hfo), hct, if_pos hno]
                exact j_ireti C hr E (Nat.le_refl _) (Nat.le_refl _) rfl (upR (upR Z2 43 (fun _ => nI (p))) 40 (fun _ => nI (3))) ⟨by rw [hk9]; rfl, fun z => absurd z (by rw [hk9]; decide), by rw [hk9, hct, hRp]; exact g_SM_40 (g_SM_st hSM1) _⟩ rfl dX8_read_113
            · have hx8 : g_nx w p < 8 := g_st_let (S := g_T τ t) (root := t) hwf (g_P_lt hwf htn (hI2.1 t2 (by simp))) (by rw [hs2])
              have hp2 : p < w.length := Nat.lt_of_not_le (fun z => by rw [g_nx_out z] at hx8; omega)
              have hI3 := g_I_let hwf htn hTY9 _ hI2 (by rw [hs2])
              rw [hs2] at hI3
              refine j_eqi (y := nI 1) er ?_
              refine j_istore_n C 74 (lv' := [(3, .int (nI (1))), (2, .int (nI (p))), (0, .ref (bd 0)), (1, .int (nI (t)))]) dX8_read_74 rfl (by rw [hn]; decide) rfl ?_
              refine j_iload_n C 75 0 dX8_read_75 rfl rfl ?_
              refine j_iconst C 76 (v := nI 1) dX8_read_76 rfl ?_
              refine j_icmp_ne_n C 77 86 (by omega) (by omega) dX8_read_77 (by decide) (fun h => absurd h (by omega)) (fun _ => ?_)
              refine j_iload_n C 80 1 dX8_read_80 rfl rfl ?_
              refine j_iconst C 81 (v := nI 1) dX8_read_81 rfl ?_
              refine j_iadd_e C 82 dX8_read_82 (nI_add _ _) ?_
              refine j_goto C 83 87 dX8_read_83 (by decide) ?_
              refine j_istore_n C 87 (lv' := [(2, .int (nI (p + 1))), (3, .int (nI (1))), (0, .ref (bd 0)), (1, .int (nI (t)))]) dX8_read_87 rfl (by rw [hn]; decide) rfl ?_
              refine j_goto C 88 47 dX8_read_88 (by decide) ?_
              exact j_lv [1, 0, 2, 3] rfl (ih (p + 1) σ3 (v2 + 1) l2 Z2 (by omega) (g_RL_let hRL2 (by omega) hs2) hI3 (by omega) (by omega) hM2 hfr2 h402 _ rfl)
            · have hRD := g_RL_no hRL2 (by omega) hs2
              have hRp : (g_RD τ t w).2.1 = p := by rw [hRD]
              have hno : ¬ ((g_RD τ t w).1 = true ∧ (g_RD τ t w).2.1 = w.length) := fun z => by rw [hRD] at z; cases z.1
              refine j_eqi (y := -1) er ?_
              refine j_istore_n C 74 (lv' := [(3, .int (-1)), (2, .int (nI (p))), (0, .ref (bd 0)), (1, .int (nI (t)))]) dX8_read_74 rfl (by rw [hn]; decide) rfl ?_
              refine j_iload_n C 75 0 dX8_read_75 rfl rfl ?_
              refine j_iconst C 76 (v := nI 1) dX8_read_76 rfl ?_
              refine j_icmp_ne C 77 86 dX8_read_77 (by decide) (fun _ => ?_) (fun h => absurd h (by decide))
              refine j_iload_n C 86 1 dX8_read_86 rfl rfl ?_
              refine j_istore_n C 87 (lv' := [(2, .int (nI (p))), (3, .int (-1)), (0, .ref (bd 0)), (1, .int (nI (t)))]) dX8_read_87 rfl (by rw [hn]; decide) rfl ?_
              refine j_goto C 88 47 dX8_read_88 (by decide) ?_
              refine j_iload_n C 47 1 dX8_read_47 rfl rfl ?_
              refine j_iconst C 48 (v := nI 1) dX8_read_48 rfl ?_
              refine j_icmp_ne C 49 91 dX8_read_49 (by decide) (fun _ => ?_) (fun h => absurd h (by decide))
              refine j_iload_n C 91 1 dX8_read_91 rfl rfl ?_
              refine j_if_lt C 92 103 dX8_read_92 (by decide) (fun _ => ?_) (fun h => absurd (by decide) h)
              refine j_aload_n C 103 2 dX8_read_103 rfl rfl ?_
              refine j_iload_n C 104 0 dX8_read_104 rfl rfl ?_
              refine j_put C 105 (ci := 8) hL tyX8_ok nmX8 rfl 0 (wm_o0 bd c Z2 L) 15 (by decide) f47 rfl rfl (tyX8_ok 15 (by decide)) rfl rfl (Nat.le_of_ble_eq_true rfl) (wm_p43 bd c Z2 L (nI (p))) dX8_read_105 ?_
              refine j_aload_n C 108 2 dX8_read_108 rfl rfl ?_
              refine j_iconst C 109 (v := nI 3) dX8_read_109 rfl ?_
              refine j_callI (mc := 0) (ms := 0) C 110 (c_X8_fail (jl κ) D bd c (upR Z2 43 (fun _ => nI (p))) L (nI 3)) gX8_read_X8_fail rfl rfl rfl hd_X8_fail (by rw [hR]; exact ⟨Nat.le_of_ble_eq_true rfl, Nat.le_of_ble_eq_true rfl⟩) (ci := 8) rfl 0 (wm_o0 bd c (upR Z2 43 (fun _ => nI (p))) L) rfl (Nat.le_of_ble_eq_true rfl) ⟨Nat.zero_le _, Nat.zero_le _⟩ dX8_read_110 (fun r110 _ e110 => ?_)
              subst e110
              have hk9 : k_read n τ w (nI t) = 3 := by unfold k_read; rw [if_neg (fun z => z hb), if_neg (by rw [hct]; exact fun z => z hfo), hct, if_pos hno]
              exact j_ireti C hr E (Nat.le_refl _) (Nat.le_refl _) rfl (upR (upR Z2 43 (fun _ => nI (p))) 40 (fun _ => nI (3))) ⟨by rw [hk9]; rfl, fun z => absurd z (by rw [hk9]; decide), by rw [hk9, hct, hRp]; exact g_SM_40 (g_SM_st hSM1) _⟩ rfl dX8_read_113
      exact j_lv [0, 1, 2, 3] rfl (loop (w.length + 1) 0 [t] 0 [] (upR (upR (upR (upR (upR Z9 40 (fun _ => nI (0))) 15 (upd (Z9 15) 0 (nI t))) 47 (fun _ => nI 1)) 46 (fun _ => nI 0)) 45 (fun _ => nI 0)) rfl g_RL_0 (g_I_start hwf htn) (Nat.le_refl _) (Nat.zero_le _) ⟨rfl, g_ar_push (l := []) g_ar_nil rfl, rfl, rfl, fun j h => by cases h⟩ hfr0 h40z _ rfl)
    · refine j_aload_n C 0 0 dX8_read_0 rfl rfl ?_
      refine j_aload_n C 1 0 dX8_read_1 rfl rfl ?_
      refine j_iload_n C 2 1 dX8_read_2 rfl rfl ?_
      refine j_callI (mc := 0) (ms := 0) C 3 (c_X8_isTerm (jl κ) D bd c Z L n (nI (t)) hz) gX8_read_X8_isTerm rfl rfl rfl hd_X8_isTerm (by rw [hR]; exact ⟨Nat.le_of_ble_eq_true rfl, Nat.le_of_ble_eq_true rfl⟩) (ci := 8) rfl 0 (wm_o0 bd c Z L) rfl (Nat.le_of_ble_eq_true rfl) ⟨Nat.zero_le _, Nat.zero_le _⟩ dX8_read_3 (fun r3 _ e3 => ?_)
      refine j_eqi (y := b2 true) (e3.trans (by rw [decide_eq_true hb])) ?_
      refine j_if_ne_b C 6 (b := true) 13 dX8_read_6 (by decide) (fun _ => ?_) (fun h => by cases h)
      refine j_aload_n C 13 0 dX8_read_13 rfl rfl ?_
      refine j_iload_n C 14 1 dX8_read_14 rfl rfl ?_
      refine j_callI (mc := 0) (ms := 0) C 15 (c_X8_faultOf (jl κ) D bd c Z L t hwf htn hE hz) gX8_read_X8_faultOf rfl rfl rfl hd_X8_faultOf (by rw [hR]; exact ⟨Nat.le_of_ble_eq_true rfl, Nat.le_of_ble_eq_true rfl⟩) (ci := 8) rfl 0 (wm_o0 bd c Z L) rfl (Nat.le_of_ble_eq_true rfl) ⟨Nat.zero_le _, Nat.zero_le _⟩ dX8_read_15 (fun r9 Z9 q9 => ?_)
      obtain ⟨e9, ⟨hLF9, hY9, hB9, hI9⟩, hfr9⟩ := q9
      refine j_eqi (y := nI (g_fo τ t)) (e9.trans (by first | rw [hfo] | rfl)) ?_
      have hSM9 : g_SM n τ w st tr Z9 := g_SM_fr hSM hfr9 (by decide)
      refine j_if_eq_n C 18 25 (by omega) dX8_read_18 (by decide) (fun h => absurd h (by omega)) (fun _ => ?_)
      refine j_iconst C 21 (v := nI 2) dX8_read_21 rfl ?_
      refine j_goto C 22 26 dX8_read_22 (by decide) ?_
      refine j_put C 26 (ci := 8) hL tyX8_ok nmX8 rfl 0 (wm_o0 bd c Z9 L) 0 (by decide) f73 rfl rfl (tyX8_ok 0 (by decide)) rfl rfl (Nat.le_of_ble_eq_true rfl) (wm_p40 bd c Z9 L (nI (2))) dX8_read_26 ?_
      refine j_aload_n C 29 0 dX8_read_29 rfl rfl ?_
      refine j_get C 30 (ci := 8) hL rfl 0 (wm_o0 bd c (upR Z9 40 (fun _ => nI (2))) L) 0 (by decide) f73 rfl (v := .int (nI (2))) rfl dX8_read_30 ?_
      refine j_if_le_n C 33 38 (by omega) dX8_read_33 (by decide) (fun h => absurd h (by omega)) (fun _ => ?_)
      refine j_iconst C 36 (v := nI 0) dX8_read_36 rfl ?_
      have hk9 : k_read n τ w (nI t) = 2 := by unfold k_read; rw [if_neg (fun z => z hb), if_pos (by rw [hct]; exact hfo)]
      exact j_ireti C hr E (Nat.le_refl _) (Nat.le_refl _) rfl (upR Z9 40 (fun _ => nI (2))) ⟨by rw [hk9]; rfl, fun z => absurd z (by rw [hk9]; decide), by rw [hk9]; exact g_SM_40 hSM9 _⟩ rfl dX8_read_37
  · refine j_aload_n C 0 0 dX8_read_0 rfl rfl ?_
    refine j_aload_n C 1 0 dX8_read_1 rfl rfl ?_
    refine j_iload_n C 2 1 dX8_read_2 rfl rfl ?_
    refine j_callI (mc := 0) (ms := 0) C 3 (c_X8_isTerm (jl κ) D bd c Z L n (x) hz) gX8_read_X8_isTerm rfl rfl rfl hd_X8_isTerm (by rw [hR]; exact ⟨Nat.le_of_ble_eq_true rfl, Nat.le_of_ble_eq_true rfl⟩) (ci := 8) rfl 0 (wm_o0 bd c Z L) rfl (Nat.le_of_ble_eq_true rfl) ⟨Nat.zero_le _, Nat.zero_le _⟩ dX8_read_3 (fun r3 _ e3 => ?_)
    refine j_eqi (y := b2 false) (e3.trans (by rw [decide_eq_false hb])) ?_
    refine j_if_ne_b C 6 (b := false) 13 dX8_read_6 (by decide) (fun h => by cases h) (fun _ => ?_)
    refine j_iconst C 9 (v := nI 1) dX8_read_9 rfl ?_
    refine j_goto C 10 26 dX8_read_10 (by decide) ?_
    refine j_put C 26 (ci := 8) hL tyX8_ok nmX8 rfl 0 (wm_o0 bd c Z L) 0 (by decide) f73 rfl rfl (tyX8_ok 0 (by decide)) rfl rfl (Nat.le_of_ble_eq_true rfl) (wm_p40 bd c Z L (nI (1))) dX8_read_26 ?_
    refine j_aload_n C 29 0 dX8_read_29 rfl rfl ?_
    refine j_get C 30 (ci := 8) hL rfl 0 (wm_o0 bd c (upR Z 40 (fun _ => nI (1))) L) 0 (by decide) f73 rfl (v := .int (nI (1))) rfl dX8_read_30 ?_
    refine j_if_le_n C 33 38 (by omega) dX8_read_33 (by decide) (fun h => absurd h (by omega)) (fun _ => ?_)
    refine j_iconst C 36 (v := nI 0) dX8_read_36 rfl ?_
    have hk9 : k_read n τ w x = 1 := by unfold k_read; rw [if_pos hb]
    exact j_ireti C hr E (Nat.le_refl _) (Nat.le_refl _) rfl (upR Z 40 (fun _ => nI (1))) ⟨by rw [hk9]; rfl, fun z => absurd z (by rw [hk9]; decide), by rw [hk9]; exact g_SM_40 hSM _⟩ rfl dX8_read_37
