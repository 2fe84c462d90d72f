/-! contracts: the reference, what builds and what asks -/
theorem g_SM_new {n : Nat} {τ τ' : Tb} {w : List Nat} {st : Int32} {tr : List Nat} {Z Z' : ZT} (h : g_SM n τ w st tr Z) (hwf : g_WF (n + 1) τ') (hE : g_EM (n + 1) τ' Z') (hz : Z' 41 0 = nI (n + 1)) (hf : g_fr [1, 2, 3, 4, 5, 6, 41] Z Z') : g_SM (n + 1) τ' w st tr Z' := by
  obtain ⟨h1, h2, h3, h4, h5, h6, h7, h8⟩ := h
  refine ⟨hwf, hE, hz, ?_, ?_, ?_, ?_, h8⟩
  · rw [hf 42 (by decide), hf 12 (by decide)]; exact h4
  · rw [hf 43 (by decide)]; exact h5
  · rw [hf 44 (by decide)]; exact h6
  · rw [hf 13 (by decide)]; exact h7
theorem g_SM_w {n : Nat} {τ : Tb} {w w' : List Nat} {st : Int32} {tr : List Nat} {ks : List Nat} {Z Z' : ZT} (h : g_SM n τ w st tr Z) (hz : g_fr ks Z Z') (hk : ∀ k, k ∈ [1, 2, 3, 4, 5, 6, 13, 41, 43, 44] → k ∉ ks) (hw : g_WD w' (Z' 42 0) (Z' 12)) : g_SM n τ w' st tr Z' := by
  obtain ⟨h1, h2, h3, h4, h5, h6, h7, h8⟩ := h
  refine ⟨h1, g_EM_fr hz (fun k hkk => hk k (by revert hkk; simp; omega)) h2, ?_, hw, ?_, ?_, ?_, h8⟩
  · rw [hz 41 (hk 41 (by decide))]; exact h3
  · rw [hz 43 (hk 43 (by decide))]; exact h5
  · rw [hz 44 (hk 44 (by decide))]; exact h6
  · rw [hz 13 (hk 13 (by decide))]; exact h7
theorem g_WD_add {w : List Nat} {s : Int32} {f : Nat → Int32} (h : g_WD w s f) (hl : w.length < 40) {x : Nat} (hx : x < 8) : g_WD (w ++ [x]) (nI (w.length + 1)) (upd f w.length (nI x)) := by
  obtain ⟨h1, h2, h3, h4⟩ := h
  refine ⟨by simp; omega, by simp, g_ar_push h3 rfl, fun u hu => ?_⟩
  rcases List.mem_append.mp hu with hu | hu
  · exact h4 u hu
  · rw [List.mem_singleton.mp hu]; exact hx
theorem e_le_lt {x : Int32} {m : Nat} (hm : m + 1 < 2 ^ 31) : x ≤ nI m ↔ x < nI (m + 1) := by
  rw [Int32.le_iff_toInt_le, Int32.lt_iff_toInt_lt, nI_toInt (by omega), nI_toInt (by omega)]
  omega
theorem e_0of2 {y : Int32} (h1 : ¬ y < 0) (h2 : y ≤ nI 2) (h3 : ¬ y = nI 1) (h4 : ¬ y = nI 2) : y = 0 := by
  obtain ⟨t, ht, rfl⟩ := e_in2 (m := 2) (by decide) h1 h2
  have : t = 0 ∨ t = 1 ∨ t = 2 := by omega
  rcases this with rfl | rfl | rfl
  · rfl
  · exact absurd rfl h3
  · exact absurd rfl h4
theorem g_tr_at {f : Nat → Int32} {l : List Nat} (h : g_ar f 0 l) {t : Nat} (ht : t < l.length) : f t = nI (l.getD t 0) := by
  have q := h t ht
  rw [Nat.zero_add] at q
  rw [q, show l.getD t 0 = l[t] by simp [ht]]
set_option maxHeartbeats 4000000 in
set_option maxRecDepth 100000 in
theorem c_X8_leaf (ll : Launch) (D : va_G) (bd : Nat → Nat) (c : Nat → ClassId) (Z : ZT) (L : LT) {n : Nat} {τ : Tb} {w : List Nat} {st : Int32} {tr : List Nat} (x : Int32) (hSM : g_SM n τ w st tr Z) : cI (S := ZT) ll yX8_leaf vsX8_leaf ({ frames := 1, cells := 0, slots := 0, locals := 25 } : Room) D (tysG c) [.ref (bd 0), .int (x)] (wm bd c Z L) (fun Z' => wm bd c Z' L) (fun r Z' => Z' 40 0 = nI (k_leaf n x) ∧ (k_leaf n x = 0 → r = nI n ∧ g_SM (n + 1) (t_leaf n τ x) w st tr Z') ∧ (k_leaf n x ≠ 0 → g_SM n τ w st tr Z')) 0 0 := by
  refine cI_start (cc := cX8_leaf) (maxL := 2) RX8 rfl (by decide +kernel) rfl (Nat.le_of_ble_eq_true rfl) ?_
  intro κ hlκ C hr _ E hR hn
  subst hlκ
  have hL : ∀ w ∈ u_ws RX8 TX8 28, w.before (ja κ) (js κ) = true := fun w h => C.t w (mX8_leaf_wsX80 w h)
  have f76 : (Cond.fieldLink RX8 76 "GuardedGrammarModel" (TX8 1).2.1 (TX8 1).2.2.1).before (ja κ) (js κ) = true := C.t (.fieldLink RX8 76 "GuardedGrammarModel" "terms" "I") (mX8_leaf_o _ (by decide +kernel))
  have f73 : (Cond.fieldLink RX8 73 "GuardedGrammarModel" (TX8 0).2.1 (TX8 0).2.2.1).before (ja κ) (js κ) = true := C.t (.fieldLink RX8 73 "GuardedGrammarModel" "thrown" "I") (mX8_leaf_o _ (by decide +kernel))
  show J D κ 0 0 0 [(0, .ref (bd 0)), (1, .int (x))] [] (wm bd c Z L)
  obtain ⟨hwf, hE, hz, hwd, h43, h44, htr, htl⟩ := id hSM
  have ht48 := hwf.1
  refine j_aload_n C 0 0 dX8_leaf_0 rfl rfl ?_
  refine j_iload_n C 1 1 dX8_leaf_1 rfl rfl ?_
  refine j_bipush C 2 (v := -2) dX8_leaf_2 rfl ?_
  refine j_icmp_lt C 4 13 dX8_leaf_4 (by decide) (fun h4 => ?_) (fun h4 => ?_)
  · refine j_iconst C 13 (v := nI 1) dX8_leaf_13 rfl ?_
    refine j_goto C 14 31 dX8_leaf_14 (by decide) ?_
    refine j_put C 31 (ci := 8) hL tyX8_ok nmX8 rfl 0 (wm_o0 bd c Z L) 0 (by decide) f73 rfl rfl (tyX8_ok 0 (by decide)) rfl rfl (Nat.le_of_ble_eq_true rfl) (wm_p40 bd c Z L (nI (1))) dX8_leaf_31 ?_
    refine j_aload_n C 34 0 dX8_leaf_34 rfl rfl ?_
    refine j_get C 35 (ci := 8) hL rfl 0 (wm_o0 bd c (upR Z 40 (fun _ => nI (1))) L) 0 (by decide) f73 rfl (v := .int (nI (1))) rfl dX8_leaf_35 ?_
    refine j_if_le_n C 38 43 (by omega) dX8_leaf_38 (by decide) (fun h => absurd h (by omega)) (fun _ => ?_)
    refine j_iconst C 41 (v := nI 0) dX8_leaf_41 rfl ?_
    have hk9 : k_leaf n x = 1 := by unfold k_leaf; rw [if_pos (Or.inl h4)]
    exact j_ireti C hr E (Nat.le_refl _) (Nat.le_refl _) rfl (upR Z 40 (fun _ => nI (1))) ⟨by rw [hk9]; rfl, fun z => absurd z (by rw [hk9]; decide), fun _ => g_SM_40 hSM _⟩ rfl dX8_leaf_42
  · refine j_iload_n C 7 1 dX8_leaf_7 rfl rfl ?_
    refine j_bipush C 8 (v := nI 7) dX8_leaf_8 rfl ?_
    refine j_icmp_le C 10 17 dX8_leaf_10 (by decide) (fun h10 => ?_) (fun h10 => ?_)
    · refine j_aload_n C 17 0 dX8_leaf_17 rfl rfl ?_
      refine j_get C 18 (ci := 8) hL rfl 0 (wm_o0 bd c Z L) 1 (by decide) f76 rfl (v := .int (Z 41 0)) rfl dX8_leaf_18 ?_
      refine j_eqi hz ?_
      refine j_bipush C 21 (v := nI 48) dX8_leaf_21 rfl ?_
      refine j_icmp_ne_n C 23 30 (by omega) (by omega) dX8_leaf_23 (by decide) (fun h23 => ?_) (fun h23 => ?_)
      · have h9x : x < nI 8 := (e_le_lt (by decide)).mp h10
        have hn48 : n < 48 := by have := hwf.1; omega
        refine j_iconst C 30 (v := nI 0) dX8_leaf_30 rfl ?_
        refine j_put C 31 (ci := 8) hL tyX8_ok nmX8 rfl 0 (wm_o0 bd c Z L) 0 (by decide) f73 rfl rfl (tyX8_ok 0 (by decide)) rfl rfl (Nat.le_of_ble_eq_true rfl) (wm_p40 bd c Z L (nI (0))) dX8_leaf_31 ?_
        refine j_aload_n C 34 0 dX8_leaf_34 rfl rfl ?_
        refine j_get C 35 (ci := 8) hL rfl 0 (wm_o0 bd c (upR Z 40 (fun _ => nI (0))) L) 0 (by decide) f73 rfl (v := .int (nI (0))) rfl dX8_leaf_35 ?_
        refine j_if_le_n C 38 43 (by omega) dX8_leaf_38 (by decide) (fun _ => ?_) (fun h => absurd h (by omega))
        refine j_aload_n C 43 0 dX8_leaf_43 rfl rfl ?_
        refine j_iload_n C 44 1 dX8_leaf_44 rfl rfl ?_
        refine j_iconst C 45 (v := -1) dX8_leaf_45 rfl ?_
        refine j_icmp_ne C 46 53 dX8_leaf_46 (by decide) (fun h46 => ?_) (fun h46 => ?_)
        · refine j_iload_n C 53 1 dX8_leaf_53 rfl rfl ?_
          refine j_bipush C 54 (v := -2) dX8_leaf_54 rfl ?_
          refine j_icmp_ne C 56 63 dX8_leaf_56 (by decide) (fun h56 => ?_) (fun h56 => ?_)
          · have hx8 : cN x < 8 ∧ x = nI (cN x) := by
              obtain ⟨t, ht, e⟩ := e_leaf h4 h9x h46 h56
              have e2 : cN x = t := by rw [e]; exact nI_clamp (by omega)
              rw [e2]; exact ⟨ht, e⟩
            refine j_iconst C 63 (v := nI 2) dX8_leaf_63 rfl ?_
            refine j_iload_n C 64 1 dX8_leaf_64 rfl rfl ?_
            refine j_iconst C 65 (v := -1) dX8_leaf_65 rfl ?_
            refine j_iconst C 66 (v := -1) dX8_leaf_66 rfl ?_
            refine j_callI (mc := 0) (ms := 0) C 67 (c_X8_add (jl κ) D bd c (upR Z 40 (fun _ => nI (0))) L 2 (cN x) [] x (-1) (-1) hwf hE hz (g_NC_0 hn48 (Or.inl (by decide)) (fun _ => hx8.1) (fun z => by cases z)) (fun _ => hx8.2) rfl rfl) gX8_leaf_X8_add rfl rfl rfl hd_X8_add (by rw [hR]; exact ⟨Nat.le_of_ble_eq_true rfl, Nat.le_of_ble_eq_true rfl⟩) (ci := 8) rfl 0 (wm_o0 bd c (upR Z 40 (fun _ => nI (0))) L) rfl (Nat.le_of_ble_eq_true rfl) ⟨Nat.zero_le _, Nat.zero_le _⟩ dX8_leaf_67 (fun r67 Z67 q67 => ?_)
            refine j_eqi q67.1 ?_
            have hnew := g_SM_new (g_SM_40 hSM _) (g_WF_new hwf (g_NC_0 hn48 (Or.inl (by decide)) (fun _ => hx8.1) (fun z => by cases z))) q67.2.1 q67.2.2.1 q67.2.2.2
            have h40n : Z67 40 0 = nI 0 := congrFun (q67.2.2.2 40 (by decide)) 0
            have hk9 : k_leaf n x = 0 := by unfold k_leaf; rw [if_neg (fun z => z.elim h4 (fun z => z h9x)), if_neg h23]
            exact j_ireti C hr E (Nat.le_refl _) (Nat.le_refl _) rfl Z67 ⟨by rw [hk9]; exact h40n, fun _ => ⟨rfl, by unfold t_leaf; rw [if_neg h46, if_neg h56]; exact hnew⟩, fun z => absurd hk9 z⟩ rfl dX8_leaf_70
          · refine j_iconst C 59 (v := nI 1) dX8_leaf_59 rfl ?_
            refine j_goto C 60 64 dX8_leaf_60 (by decide) ?_
            refine j_iload_n C 64 1 dX8_leaf_64 rfl rfl ?_
            refine j_iconst C 65 (v := -1) dX8_leaf_65 rfl ?_
            refine j_iconst C 66 (v := -1) dX8_leaf_66 rfl ?_
            refine j_callI (mc := 0) (ms := 0) C 67 (c_X8_add (jl κ) D bd c (upR Z 40 (fun _ => nI (0))) L 1 0 [] x (-1) (-1) hwf hE hz (g_NC_0 hn48 (Or.inl (by decide)) (fun z => by cases z) (fun z => by cases z)) (fun z => by omega) rfl rfl) gX8_leaf_X8_add rfl rfl rfl hd_X8_add (by rw [hR]; exact ⟨Nat.le_of_ble_eq_true rfl, Nat.le_of_ble_eq_true rfl⟩) (ci := 8) rfl 0 (wm_o0 bd c (upR Z 40 (fun _ => nI (0))) L) rfl (Nat.le_of_ble_eq_true rfl) ⟨Nat.zero_le _, Nat.zero_le _⟩ dX8_leaf_67 (fun r67 Z67 q67 => ?_)
            refine j_eqi q67.1 ?_
            have hnew := g_SM_new (g_SM_40 hSM _) (g_WF_new hwf (g_NC_0 hn48 (Or.inl (by decide)) (fun z => by cases z) (fun z => by cases z))) q67.2.1 q67.2.2.1 q67.2.2.2
            have h40n : Z67 40 0 = nI 0 := congrFun (q67.2.2.2 40 (by decide)) 0
            have hk9 : k_leaf n x = 0 := by unfold k_leaf; rw [if_neg (fun z => z.elim h4 (fun z => z h9x)), if_neg h23]
            exact j_ireti C hr E (Nat.le_refl _) (Nat.le_refl _) rfl Z67 ⟨by rw [hk9]; exact h40n, fun _ => ⟨rfl, by unfold t_leaf; rw [if_neg h46, if_pos h56]; exact hnew⟩, fun z => absurd hk9 z⟩ rfl dX8_leaf_70
        · refine j_iconst C 49 (v := nI 0) dX8_leaf_49 rfl ?_
          refine j_goto C 50 64 dX8_leaf_50 (by decide) ?_
          refine j_iload_n C 64 1 dX8_leaf_64 rfl rfl ?_
          refine j_iconst C 65 (v := -1) dX8_leaf_65 rfl ?_
          refine j_iconst C 66 (v := -1) dX8_leaf_66 rfl ?_
          refine j_callI (mc := 0) (ms := 0) C 67 (c_X8_add (jl κ) D bd c (upR Z 40 (fun _ => nI (0))) L 0 0 [] x (-1) (-1) hwf hE hz (g_NC_0 hn48 (Or.inl (by decide)) (fun z => by cases z) (fun z => by cases z)) (fun z => by omega) rfl rfl) gX8_leaf_X8_add rfl rfl rfl hd_X8_add (by rw [hR]; exact ⟨Nat.le_of_ble_eq_true rfl, Nat.le_of_ble_eq_true rfl⟩) (ci := 8) rfl 0 (wm_o0 bd c (upR Z 40 (fun _ => nI (0))) L) rfl (Nat.le_of_ble_eq_true rfl) ⟨Nat.zero_le _, Nat.zero_le _⟩ dX8_leaf_67 (fun r67 Z67 q67 => ?_)
          refine j_eqi q67.1 ?_
          have hnew := g_SM_new (g_SM_40 hSM _) (g_WF_new hwf (g_NC_0 hn48 (Or.inl (by decide)) (fun z => by cases z) (fun z => by cases z))) q67.2.1 q67.2.2.1 q67.2.2.2
          have h40n : Z67 40 0 = nI 0 := congrFun (q67.2.2.2 40 (by decide)) 0
          have hk9 : k_leaf n x = 0 := by unfold k_leaf; rw [if_neg (fun z => z.elim h4 (fun z => z h9x)), if_neg h23]
          exact j_ireti C hr E (Nat.le_refl _) (Nat.le_refl _) rfl Z67 ⟨by rw [hk9]; exact h40n, fun _ => ⟨rfl, by unfold t_leaf; rw [if_pos h46]; exact hnew⟩, fun z => absurd hk9 z⟩ rfl dX8_leaf_70
      · refine j_iconst C 26 (v := nI 2) dX8_leaf_26 rfl ?_
        refine j_goto C 27 31 dX8_leaf_27 (by decide) ?_
        refine j_put C 31 (ci := 8) hL tyX8_ok nmX8 rfl 0 (wm_o0 bd c Z L) 0 (by decide) f73 rfl rfl (tyX8_ok 0 (by decide)) rfl rfl (Nat.le_of_ble_eq_true rfl) (wm_p40 bd c Z L (nI (2))) dX8_leaf_31 ?_
        refine j_aload_n C 34 0 dX8_leaf_34 rfl rfl ?_
        refine j_get C 35 (ci := 8) hL rfl 0 (wm_o0 bd c (upR Z 40 (fun _ => nI (2))) L) 0 (by decide) f73 rfl (v := .int (nI (2))) rfl dX8_leaf_35 ?_
        refine j_if_le_n C 38 43 (by omega) dX8_leaf_38 (by decide) (fun h => absurd h (by omega)) (fun _ => ?_)
        refine j_iconst C 41 (v := nI 0) dX8_leaf_41 rfl ?_
        have hk9 : k_leaf n x = 2 := by unfold k_leaf; rw [if_neg (fun z => z.elim h4 (fun z => z ((e_le_lt (by decide)).mp h10))), if_pos h23]
        exact j_ireti C hr E (Nat.le_refl _) (Nat.le_refl _) rfl (upR Z 40 (fun _ => nI (2))) ⟨by rw [hk9]; rfl, fun z => absurd z (by rw [hk9]; decide), fun _ => g_SM_40 hSM _⟩ rfl dX8_leaf_42
    · refine j_iconst C 13 (v := nI 1) dX8_leaf_13 rfl ?_
      refine j_goto C 14 31 dX8_leaf_14 (by decide) ?_
      refine j_put C 31 (ci := 8) hL tyX8_ok nmX8 rfl 0 (wm_o0 bd c Z L) 0 (by decide) f73 rfl rfl (tyX8_ok 0 (by decide)) rfl rfl (Nat.le_of_ble_eq_true rfl) (wm_p40 bd c Z L (nI (1))) dX8_leaf_31 ?_
      refine j_aload_n C 34 0 dX8_leaf_34 rfl rfl ?_
      refine j_get C 35 (ci := 8) hL rfl 0 (wm_o0 bd c (upR Z 40 (fun _ => nI (1))) L) 0 (by decide) f73 rfl (v := .int (nI (1))) rfl dX8_leaf_35 ?_
      refine j_if_le_n C 38 43 (by omega) dX8_leaf_38 (by decide) (fun h => absurd h (by omega)) (fun _ => ?_)
      refine j_iconst C 41 (v := nI 0) dX8_leaf_41 rfl ?_
      have hk9 : k_leaf n x = 1 := by unfold k_leaf; rw [if_pos (Or.inr (fun z => h10 ((e_le_lt (by decide)).mpr z)))]
      exact j_ireti C hr E (Nat.le_refl _) (Nat.le_refl _) rfl (upR Z 40 (fun _ => nI (1))) ⟨by rw [hk9]; rfl, fun z => absurd z (by rw [hk9]; decide), fun _ => g_SM_40 hSM _⟩ rfl dX8_leaf_42
set_option maxHeartbeats 4000000 in
set_option maxRecDepth 100000 in
theorem c_X8_variable (ll : Launch) (D : va_G) (bd : Nat → Nat) (c : Nat → ClassId) (Z : ZT) (L : LT) {n : Nat} {τ : Tb} {w : List Nat} {st : Int32} {tr : List Nat} (x : Int32) (hSM : g_SM n τ w st tr Z) : cI (S := ZT) ll yX8_variable vsX8_variable ({ frames := 1, cells := 0, slots := 0, locals := 25 } : Room) D (tysG c) [.ref (bd 0), .int (x)] (wm bd c Z L) (fun Z' => wm bd c Z' L) (fun r Z' => Z' 40 0 = nI (k_var n x) ∧ (k_var n x = 0 → r = nI n ∧ g_SM (n + 1) (t_var n τ x) w st tr Z') ∧ (k_var n x ≠ 0 → g_SM n τ w st tr Z')) 0 0 := by
  refine cI_start (cc := cX8_variable) (maxL := 2) RX8 rfl (by decide +kernel) rfl (Nat.le_of_ble_eq_true rfl) ?_
  intro κ hlκ C hr _ E hR hn
  subst hlκ
  have hL : ∀ w ∈ u_ws RX8 TX8 28, w.before (ja κ) (js κ) = true := fun w h => C.t w (mX8_variable_wsX80 w h)
  have f76 : (Cond.fieldLink RX8 76 "GuardedGrammarModel" (TX8 1).2.1 (TX8 1).2.2.1).before (ja κ) (js κ) = true := C.t (.fieldLink RX8 76 "GuardedGrammarModel" "terms" "I") (mX8_variable_o _ (by decide +kernel))
  have f73 : (Cond.fieldLink RX8 73 "GuardedGrammarModel" (TX8 0).2.1 (TX8 0).2.2.1).before (ja κ) (js κ) = true := C.t (.fieldLink RX8 73 "GuardedGrammarModel" "thrown" "I") (mX8_variable_o _ (by decide +kernel))
  show J D κ 0 0 0 [(0, .ref (bd 0)), (1, .int (x))] [] (wm bd c Z L)
  obtain ⟨hwf, hE, hz, hwd, h43, h44, htr, htl⟩ := id hSM
  have ht48 := hwf.1
  refine j_aload_n C 0 0 dX8_variable_0 rfl rfl ?_
  refine j_iload_n C 1 1 dX8_variable_1 rfl rfl ?_
  refine j_if_lt C 2 10 dX8_variable_2 (by decide) (fun h2 => ?_) (fun h2 => ?_)
  · refine j_iconst C 10 (v := nI 1) dX8_variable_10 rfl ?_
    refine j_goto C 11 28 dX8_variable_11 (by decide) ?_
    refine j_put C 28 (ci := 8) hL tyX8_ok nmX8 rfl 0 (wm_o0 bd c Z L) 0 (by decide) f73 rfl rfl (tyX8_ok 0 (by decide)) rfl rfl (Nat.le_of_ble_eq_true rfl) (wm_p40 bd c Z L (nI (1))) dX8_variable_28 ?_
    refine j_aload_n C 31 0 dX8_variable_31 rfl rfl ?_
    refine j_get C 32 (ci := 8) hL rfl 0 (wm_o0 bd c (upR Z 40 (fun _ => nI (1))) L) 0 (by decide) f73 rfl (v := .int (nI (1))) rfl dX8_variable_32 ?_
    refine j_if_le_n C 35 42 (by omega) dX8_variable_35 (by decide) (fun h => absurd h (by omega)) (fun _ => ?_)
    refine j_iconst C 38 (v := nI 0) dX8_variable_38 rfl ?_
    refine j_goto C 39 50 dX8_variable_39 (by decide) ?_
    have hk9 : k_var n x = 1 := by unfold k_var; rw [if_pos (Or.inl h2)]
    exact j_ireti C hr E (Nat.le_refl _) (Nat.le_refl _) rfl (upR Z 40 (fun _ => nI (1))) ⟨by rw [hk9]; rfl, fun z => absurd z (by rw [hk9]; decide), fun _ => g_SM_40 hSM _⟩ rfl dX8_variable_50
  · refine j_iload_n C 5 1 dX8_variable_5 rfl rfl ?_
    refine j_iconst C 6 (v := nI 3) dX8_variable_6 rfl ?_
    refine j_icmp_le C 7 14 dX8_variable_7 (by decide) (fun h7 => ?_) (fun h7 => ?_)
    · refine j_aload_n C 14 0 dX8_variable_14 rfl rfl ?_
      refine j_get C 15 (ci := 8) hL rfl 0 (wm_o0 bd c Z L) 1 (by decide) f76 rfl (v := .int (Z 41 0)) rfl dX8_variable_15 ?_
      refine j_eqi hz ?_
      refine j_bipush C 18 (v := nI 48) dX8_variable_18 rfl ?_
      refine j_icmp_ne_n C 20 27 (by omega) (by omega) dX8_variable_20 (by decide) (fun h20 => ?_) (fun h20 => ?_)
      · have h4x : x < nI 4 := (e_le_lt (by decide)).mp h7
        have hn48 : n < 48 := by have := hwf.1; omega
        have hx4 : cN x < 4 ∧ x = nI (cN x) := by
          obtain ⟨t, ht, e⟩ := e_in (by decide) h2 h4x
          have e2 : cN x = t := by rw [e]; exact nI_clamp (by omega)
          rw [e2]; exact ⟨ht, e⟩
        refine j_iconst C 27 (v := nI 0) dX8_variable_27 rfl ?_
        refine j_put C 28 (ci := 8) hL tyX8_ok nmX8 rfl 0 (wm_o0 bd c Z L) 0 (by decide) f73 rfl rfl (tyX8_ok 0 (by decide)) rfl rfl (Nat.le_of_ble_eq_true rfl) (wm_p40 bd c Z L (nI (0))) dX8_variable_28 ?_
        refine j_aload_n C 31 0 dX8_variable_31 rfl rfl ?_
        refine j_get C 32 (ci := 8) hL rfl 0 (wm_o0 bd c (upR Z 40 (fun _ => nI (0))) L) 0 (by decide) f73 rfl (v := .int (nI (0))) rfl dX8_variable_32 ?_
        refine j_if_le_n C 35 42 (by omega) dX8_variable_35 (by decide) (fun _ => ?_) (fun h => absurd h (by omega))
        refine j_aload_n C 42 0 dX8_variable_42 rfl rfl ?_
        refine j_iconst C 43 (v := nI 5) dX8_variable_43 rfl ?_
        refine j_iload_n C 44 1 dX8_variable_44 rfl rfl ?_
        refine j_iconst C 45 (v := -1) dX8_variable_45 rfl ?_
        refine j_iconst C 46 (v := -1) dX8_variable_46 rfl ?_
        refine j_callI (mc := 0) (ms := 0) C 47 (c_X8_add (jl κ) D bd c (upR Z 40 (fun _ => nI (0))) L 5 (cN x) [] x (-1) (-1) hwf hE hz (g_NC_0 hn48 (Or.inr rfl) (fun z => by cases z) (fun _ => hx4.1)) (fun _ => hx4.2) rfl rfl) gX8_variable_X8_add rfl rfl rfl hd_X8_add (by rw [hR]; exact ⟨Nat.le_of_ble_eq_true rfl, Nat.le_of_ble_eq_true rfl⟩) (ci := 8) rfl 0 (wm_o0 bd c (upR Z 40 (fun _ => nI (0))) L) rfl (Nat.le_of_ble_eq_true rfl) ⟨Nat.zero_le _, Nat.zero_le _⟩ dX8_variable_47 (fun r47 Z47 q47 => ?_)
        refine j_eqi q47.1 ?_
        have hnew := g_SM_new (g_SM_40 hSM _) (g_WF_new hwf (g_NC_0 hn48 (Or.inr rfl) (fun z => by cases z) (fun _ => hx4.1))) q47.2.1 q47.2.2.1 q47.2.2.2
        have h40n : Z47 40 0 = nI 0 := congrFun (q47.2.2.2 40 (by decide)) 0
        have hk9 : k_var n x = 0 := by unfold k_var; rw [if_neg (fun z => z.elim h2 (fun z => absurd h4x (Int32.not_lt.mpr z))), if_neg h20]
        exact j_ireti C hr E (Nat.le_refl _) (Nat.le_refl _) rfl Z47 ⟨by rw [hk9]; exact h40n, fun _ => ⟨rfl, hnew⟩, fun z => absurd hk9 z⟩ rfl dX8_variable_50
      · refine j_iconst C 23 (v := nI 2) dX8_variable_23 rfl ?_
        refine j_goto C 24 28 dX8_variable_24 (by decide) ?_
        refine j_put C 28 (ci := 8) hL tyX8_ok nmX8 rfl 0 (wm_o0 bd c Z L) 0 (by decide) f73 rfl rfl (tyX8_ok 0 (by decide)) rfl rfl (Nat.le_of_ble_eq_true rfl) (wm_p40 bd c Z L (nI (2))) dX8_variable_28 ?_
        refine j_aload_n C 31 0 dX8_variable_31 rfl rfl ?_
        refine j_get C 32 (ci := 8) hL rfl 0 (wm_o0 bd c (upR Z 40 (fun _ => nI (2))) L) 0 (by decide) f73 rfl (v := .int (nI (2))) rfl dX8_variable_32 ?_
        refine j_if_le_n C 35 42 (by omega) dX8_variable_35 (by decide) (fun h => absurd h (by omega)) (fun _ => ?_)
        refine j_iconst C 38 (v := nI 0) dX8_variable_38 rfl ?_
        refine j_goto C 39 50 dX8_variable_39 (by decide) ?_
        have hk9 : k_var n x = 2 := by unfold k_var; rw [if_neg (fun z => z.elim h2 (fun z => absurd ((e_le_lt (by decide)).mp h7) (Int32.not_lt.mpr z))), if_pos h20]
        exact j_ireti C hr E (Nat.le_refl _) (Nat.le_refl _) rfl (upR Z 40 (fun _ => nI (2))) ⟨by rw [hk9]; rfl, fun z => absurd z (by rw [hk9]; decide), fun _ => g_SM_40 hSM _⟩ rfl dX8_variable_50
    · refine j_iconst C 10 (v := nI 1) dX8_variable_10 rfl ?_
      refine j_goto C 11 28 dX8_variable_11 (by decide) ?_
      refine j_put C 28 (ci := 8) hL tyX8_ok nmX8 rfl 0 (wm_o0 bd c Z L) 0 (by decide) f73 rfl rfl (tyX8_ok 0 (by decide)) rfl rfl (Nat.le_of_ble_eq_true rfl) (wm_p40 bd c Z L (nI (1))) dX8_variable_28 ?_
      refine j_aload_n C 31 0 dX8_variable_31 rfl rfl ?_
      refine j_get C 32 (ci := 8) hL rfl 0 (wm_o0 bd c (upR Z 40 (fun _ => nI (1))) L) 0 (by decide) f73 rfl (v := .int (nI (1))) rfl dX8_variable_32 ?_
      refine j_if_le_n C 35 42 (by omega) dX8_variable_35 (by decide) (fun h => absurd h (by omega)) (fun _ => ?_)
      refine j_iconst C 38 (v := nI 0) dX8_variable_38 rfl ?_
      refine j_goto C 39 50 dX8_variable_39 (by decide) ?_
      have hk9 : k_var n x = 1 := by unfold k_var; rw [if_pos (Or.inr (Int32.not_lt.mp (fun z => h7 ((e_le_lt (by decide)).mpr z))))]
      exact j_ireti C hr E (Nat.le_refl _) (Nat.le_refl _) rfl (upR Z 40 (fun _ => nI (1))) ⟨by rw [hk9]; rfl, fun z => absurd z (by rw [hk9]; decide), fun _ => g_SM_40 hSM _⟩ rfl dX8_variable_50
set_option maxHeartbeats 4000000 in
set_option maxRecDepth 100000 in
theorem c_X8_join (ll : Launch) (D : va_G) (bd : Nat → Nat) (c : Nat → ClassId) (Z : ZT) (L : LT) {n : Nat} {τ : Tb} {w : List Nat} {st : Int32} {tr : List Nat} (a b : Int32) (e : Bool) (hSM : g_SM n τ w st tr Z) : cI (S := ZT) ll yX8_join vsX8_join ({ frames := 1, cells := 0, slots := 0, locals := 25 } : Room) D (tysG c) [.ref (bd 0), .int (a), .int (b), .int (b2 (e))] (wm bd c Z L) (fun Z' => wm bd c Z' L) (fun r Z' => Z' 40 0 = nI (k_join n τ a b) ∧ (k_join n τ a b = 0 → r = nI n ∧ g_SM (n + 1) (t_join n τ a b e) w st tr Z') ∧ (k_join n τ a b ≠ 0 → g_SM n τ w st tr Z')) 0 0 := by
  refine cI_start (cc := cX8_join) (maxL := 4) RX8 rfl (by decide +kernel) rfl (Nat.le_of_ble_eq_true rfl) ?_
  intro κ hlκ C hr _ E hR hn
  subst hlκ
  have hL : ∀ w ∈ u_ws RX8 TX8 28, w.before (ja κ) (js κ) = true := fun w h => C.t w (mX8_join_wsX80 w h)
  have f76 : (Cond.fieldLink RX8 76 "GuardedGrammarModel" (TX8 1).2.1 (TX8 1).2.2.1).before (ja κ) (js κ) = true := C.t (.fieldLink RX8 76 "GuardedGrammarModel" "terms" "I") (mX8_join_o _ (by decide +kernel))
  have f73 : (Cond.fieldLink RX8 73 "GuardedGrammarModel" (TX8 0).2.1 (TX8 0).2.2.1).before (ja κ) (js κ) = true := C.t (.fieldLink RX8 73 "GuardedGrammarModel" "thrown" "I") (mX8_join_o _ (by decide +kernel))
  show J D κ 0 0 0 [(0, .ref (bd 0)), (1, .int (a)), (2, .int (b)), (3, .int (b2 (e)))] [] (wm bd c Z L)
  obtain ⟨hwf, hE, hz, hwd, h43, h44, htr, htl⟩ := id hSM
  have ht48 := hwf.1
  by_cases hb : bT n a
  · obtain ⟨p, hpn, rfl⟩ := (bT_iff hwf.1).mp hb
    have hcp : cN (nI p) = p := nI_clamp (by have := hwf.1; omega)
    by_cases hb2 : bT n b
    · obtain ⟨q, hqn, rfl⟩ := (bT_iff hwf.1).mp hb2
      have hcq : cN (nI q) = q := nI_clamp (by have := hwf.1; omega)
      cases e with
      | true =>
        refine j_aload_n C 0 0 dX8_join_0 rfl rfl ?_
        refine j_aload_n C 1 0 dX8_join_1 rfl rfl ?_
        refine j_iload_n C 2 1 dX8_join_2 rfl rfl ?_
        refine j_callI (mc := 0) (ms := 0) C 3 (c_X8_isTerm (jl κ) D bd c Z L n (nI (p)) hz) gX8_join_X8_isTerm rfl rfl rfl hd_X8_isTerm (by rw [hR]; exact ⟨Nat.le_of_ble_eq_true rfl, Nat.le_of_ble_eq_true rfl⟩) (ci := 8) rfl 0 (wm_o0 bd c Z L) rfl (Nat.le_of_ble_eq_true rfl) ⟨Nat.zero_le _, Nat.zero_le _⟩ dX8_join_3 (fun r3 _ e3 => ?_)
        refine j_eqi (y := b2 true) (e3.trans (by rw [decide_eq_true hb])) ?_
        refine j_if_eq_b C 6 (b := true) 17 dX8_join_6 (by decide) (fun h => by cases h) (fun _ => ?_)
        refine j_aload_n C 9 0 dX8_join_9 rfl rfl ?_
        refine j_iload_n C 10 2 dX8_join_10 rfl rfl ?_
        refine j_callI (mc := 0) (ms := 0) C 11 (c_X8_isTerm (jl κ) D bd c Z L n (nI (q)) hz) gX8_join_X8_isTerm rfl rfl rfl hd_X8_isTerm (by rw [hR]; exact ⟨Nat.le_of_ble_eq_true rfl, Nat.le_of_ble_eq_true rfl⟩) (ci := 8) rfl 0 (wm_o0 bd c Z L) rfl (Nat.le_of_ble_eq_true rfl) ⟨Nat.zero_le _, Nat.zero_le _⟩ dX8_join_11 (fun r11 _ e11 => ?_)
        refine j_eqi (y := b2 true) (e11.trans (by rw [decide_eq_true hb2])) ?_
        refine j_if_ne_b C 14 (b := true) 21 dX8_join_14 (by decide) (fun _ => ?_) (fun h => by cases h)
        refine j_aload_n C 21 0 dX8_join_21 rfl rfl ?_
        refine j_iload_n C 22 1 dX8_join_22 rfl rfl ?_
        refine j_callI (mc := 0) (ms := 0) C 23 (c_X8_isPart (jl κ) D bd c Z L p hwf hE hpn) gX8_join_X8_isPart rfl rfl rfl hd_X8_isPart (by rw [hR]; exact ⟨Nat.le_of_ble_eq_true rfl, Nat.le_of_ble_eq_true rfl⟩) (ci := 8) rfl 0 (wm_o0 bd c Z L) rfl (Nat.le_of_ble_eq_true rfl) ⟨Nat.zero_le _, Nat.zero_le _⟩ dX8_join_23 (fun r23 _ e23 => ?_)
        subst e23
        refine j_if_ne_b C 26 42 dX8_join_26 (by decide) (fun h26 => ?_) (fun h26 => ?_)
        · refine j_iconst C 42 (v := nI 2) dX8_join_42 rfl ?_
          refine j_goto C 43 60 dX8_join_43 (by decide) ?_
          refine j_put C 60 (ci := 8) hL tyX8_ok nmX8 rfl 0 (wm_o0 bd c Z L) 0 (by decide) f73 rfl rfl (tyX8_ok 0 (by decide)) rfl rfl (Nat.le_of_ble_eq_true rfl) (wm_p40 bd c Z L (nI (2))) dX8_join_60 ?_
          refine j_aload_n C 63 0 dX8_join_63 rfl rfl ?_
          refine j_get C 64 (ci := 8) hL rfl 0 (wm_o0 bd c (upR Z 40 (fun _ => nI (2))) L) 0 (by decide) f73 rfl (v := .int (nI (2))) rfl dX8_join_64 ?_
          refine j_if_le_n C 67 74 (by omega) dX8_join_67 (by decide) (fun h => absurd h (by omega)) (fun _ => ?_)
          refine j_iconst C 70 (v := nI 0) dX8_join_70 rfl ?_
          refine j_goto C 71 90 dX8_join_71 (by decide) ?_
          have hk9 : k_join n τ (nI p) (nI q) = 2 := by unfold k_join; rw [if_neg (fun z => z.elim (fun z => z hb) (fun z => z hb2)), if_pos (Or.inr (Or.inl (by rw [hcp]; exact of_decide_eq_true h26)))]
          exact j_ireti C hr E (Nat.le_refl _) (Nat.le_refl _) rfl (upR Z 40 (fun _ => nI (2))) ⟨by rw [hk9]; rfl, fun z => absurd z (by rw [hk9]; decide), fun _ => g_SM_40 hSM _⟩ rfl dX8_join_90
        · refine j_aload_n C 29 0 dX8_join_29 rfl rfl ?_
          refine j_iload_n C 30 2 dX8_join_30 rfl rfl ?_
          refine j_callI (mc := 0) (ms := 0) C 31 (c_X8_isPart (jl κ) D bd c Z L q hwf hE hqn) gX8_join_X8_isPart rfl rfl rfl hd_X8_isPart (by rw [hR]; exact ⟨Nat.le_of_ble_eq_true rfl, Nat.le_of_ble_eq_true rfl⟩) (ci := 8) rfl 0 (wm_o0 bd c Z L) rfl (Nat.le_of_ble_eq_true rfl) ⟨Nat.zero_le _, Nat.zero_le _⟩ dX8_join_31 (fun r31 _ e31 => ?_)
          subst e31
          refine j_if_ne_b C 34 42 dX8_join_34 (by decide) (fun h34 => ?_) (fun h34 => ?_)
          · refine j_iconst C 42 (v := nI 2) dX8_join_42 rfl ?_
            refine j_goto C 43 60 dX8_join_43 (by decide) ?_
            refine j_put C 60 (ci := 8) hL tyX8_ok nmX8 rfl 0 (wm_o0 bd c Z L) 0 (by decide) f73 rfl rfl (tyX8_ok 0 (by decide)) rfl rfl (Nat.le_of_ble_eq_true rfl) (wm_p40 bd c Z L (nI (2))) dX8_join_60 ?_
            refine j_aload_n C 63 0 dX8_join_63 rfl rfl ?_
            refine j_get C 64 (ci := 8) hL rfl 0 (wm_o0 bd c (upR Z 40 (fun _ => nI (2))) L) 0 (by decide) f73 rfl (v := .int (nI (2))) rfl dX8_join_64 ?_
            refine j_if_le_n C 67 74 (by omega) dX8_join_67 (by decide) (fun h => absurd h (by omega)) (fun _ => ?_)
            refine j_iconst C 70 (v := nI 0) dX8_join_70 rfl ?_
            refine j_goto C 71 90 dX8_join_71 (by decide) ?_
            have hk9 : k_join n τ (nI p) (nI q) = 2 := by unfold k_join; rw [if_neg (fun z => z.elim (fun z => z hb) (fun z => z hb2)), if_pos (Or.inr (Or.inr (by rw [hcq]; exact of_decide_eq_true h34)))]
            exact j_ireti C hr E (Nat.le_refl _) (Nat.le_refl _) rfl (upR Z 40 (fun _ => nI (2))) ⟨by rw [hk9]; rfl, fun z => absurd z (by rw [hk9]; decide), fun _ => g_SM_40 hSM _⟩ rfl dX8_join_90
          · refine j_iload_n C 37 1 dX8_join_37 rfl rfl ?_
            refine j_iload_n C 38 2 dX8_join_38 rfl rfl ?_
            refine j_icmp_ne_n C 39 46 (by omega) (by omega) dX8_join_39 (by decide) (fun h39 => ?_) (fun h39 => ?_)
            · have hno : ¬ (nI p = nI q ∨ g_ip τ (cN (nI p)) = 1 ∨ g_ip τ (cN (nI q)) = 1) := fun z => z.elim (fun z => h39 ((nI_eq (by omega) (by omega)).mp z)) (fun z => z.elim (fun z => of_decide_eq_false h26 (by rw [hcp] at z; exact z)) (fun z => of_decide_eq_false h34 (by rw [hcq] at z; exact z)))
              refine j_aload_n C 46 0 dX8_join_46 rfl rfl ?_
              refine j_get C 47 (ci := 8) hL rfl 0 (wm_o0 bd c Z L) 1 (by decide) f76 rfl (v := .int (Z 41 0)) rfl dX8_join_47 ?_
              refine j_eqi hz ?_
              refine j_bipush C 50 (v := nI 48) dX8_join_50 rfl ?_
              refine j_icmp_ne_n C 52 59 (by omega) (by omega) dX8_join_52 (by decide) (fun h52 => ?_) (fun h52 => ?_)
              · have hn48 : n < 48 := by have := hwf.1; omega
                refine j_iconst C 59 (v := nI 0) dX8_join_59 rfl ?_
                refine j_put C 60 (ci := 8) hL tyX8_ok nmX8 rfl 0 (wm_o0 bd c Z L) 0 (by decide) f73 rfl rfl (tyX8_ok 0 (by decide)) rfl rfl (Nat.le_of_ble_eq_true rfl) (wm_p40 bd c Z L (nI (0))) dX8_join_60 ?_
                refine j_aload_n C 63 0 dX8_join_63 rfl rfl ?_
                refine j_get C 64 (ci := 8) hL rfl 0 (wm_o0 bd c (upR Z 40 (fun _ => nI (0))) L) 0 (by decide) f73 rfl (v := .int (nI (0))) rfl dX8_join_64 ?_
                refine j_if_le_n C 67 74 (by omega) dX8_join_67 (by decide) (fun _ => ?_) (fun h => absurd h (by omega))
                refine j_aload_n C 74 0 dX8_join_74 rfl rfl ?_
                refine j_iload_n C 75 3 dX8_join_75 rfl rfl ?_
                refine j_if_eq_b C 76 (b := true) 83 dX8_join_76 (by decide) (fun h => by cases h) (fun _ => ?_)
                refine j_iconst C 79 (v := nI 4) dX8_join_79 rfl ?_
                refine j_goto C 80 84 dX8_join_80 (by decide) ?_
                refine j_iconst C 84 (v := nI 0) dX8_join_84 rfl ?_
                refine j_iload_n C 85 1 dX8_join_85 rfl rfl ?_
                refine j_iload_n C 86 2 dX8_join_86 rfl rfl ?_
                refine j_callI (mc := 0) (ms := 0) C 87 (c_X8_add (jl κ) D bd c (upR Z 40 (fun _ => nI (0))) L 4 0 [p, q] (nI 0) (nI p) (nI q) hwf hE hz (g_NC_2 hn48 (by decide) hpn hqn (of_decide_eq_false h26) (of_decide_eq_false h34) h39 (hE p hpn).2.2.2.2.2.2 (hE q hqn).2.2.2.2.2.2) (fun z => by omega) rfl rfl) gX8_join_X8_add rfl rfl rfl hd_X8_add (by rw [hR]; exact ⟨Nat.le_of_ble_eq_true rfl, Nat.le_of_ble_eq_true rfl⟩) (ci := 8) rfl 0 (wm_o0 bd c (upR Z 40 (fun _ => nI (0))) L) rfl (Nat.le_of_ble_eq_true rfl) ⟨Nat.zero_le _, Nat.zero_le _⟩ dX8_join_87 (fun r87 Z87 q87 => ?_)
                refine j_eqi q87.1 ?_
                have hnew := g_SM_new (g_SM_40 hSM _) (g_WF_new hwf (g_NC_2 hn48 (by decide) hpn hqn (of_decide_eq_false h26) (of_decide_eq_false h34) h39 (hE p hpn).2.2.2.2.2.2 (hE q hqn).2.2.2.2.2.2)) q87.2.1 q87.2.2.1 q87.2.2.2
                have h40n : Z87 40 0 = nI 0 := congrFun (q87.2.2.2 40 (by decide)) 0
                have hk9 : k_join n τ (nI p) (nI q) = 0 := by unfold k_join; rw [if_neg (fun z => z.elim (fun z => z hb) (fun z => z hb2)), if_neg hno, if_neg h52]
                exact j_ireti C hr E (Nat.le_refl _) (Nat.le_refl _) rfl Z87 ⟨by rw [hk9]; exact h40n, fun _ => ⟨rfl, by unfold t_join; rw [hcp, hcq]; exact hnew⟩, fun z => absurd hk9 z⟩ rfl dX8_join_90
              · refine j_iconst C 55 (v := nI 3) dX8_join_55 rfl ?_
                refine j_goto C 56 60 dX8_join_56 (by decide) ?_
                refine j_put C 60 (ci := 8) hL tyX8_ok nmX8 rfl 0 (wm_o0 bd c Z L) 0 (by decide) f73 rfl rfl (tyX8_ok 0 (by decide)) rfl rfl (Nat.le_of_ble_eq_true rfl) (wm_p40 bd c Z L (nI (3))) dX8_join_60 ?_
                refine j_aload_n C 63 0 dX8_join_63 rfl rfl ?_
                refine j_get C 64 (ci := 8) hL rfl 0 (wm_o0 bd c (upR Z 40 (fun _ => nI (3))) L) 0 (by decide) f73 rfl (v := .int (nI (3))) rfl dX8_join_64 ?_
                refine j_if_le_n C 67 74 (by omega) dX8_join_67 (by decide) (fun h => absurd h (by omega)) (fun _ => ?_)
                refine j_iconst C 70 (v := nI 0) dX8_join_70 rfl ?_
                refine j_goto C 71 90 dX8_join_71 (by decide) ?_
                have hk9 : k_join n τ (nI p) (nI q) = 3 := by unfold k_join; rw [if_neg (fun z => z.elim (fun z => z hb) (fun z => z hb2)), if_neg hno, if_pos h52]
                exact j_ireti C hr E (Nat.le_refl _) (Nat.le_refl _) rfl (upR Z 40 (fun _ => nI (3))) ⟨by rw [hk9]; rfl, fun z => absurd z (by rw [hk9]; decide), fun _ => g_SM_40 hSM _⟩ rfl dX8_join_90
            · refine j_iconst C 42 (v := nI 2) dX8_join_42 rfl ?_
              refine j_goto C 43 60 dX8_join_43 (by decide) ?_
              refine j_put C 60 (ci := 8) hL tyX8_ok nmX8 rfl 0 (wm_o0 bd c Z L) 0 (by decide) f73 rfl rfl (tyX8_ok 0 (by decide)) rfl rfl (Nat.le_of_ble_eq_true rfl) (wm_p40 bd c Z L (nI (2))) dX8_join_60 ?_
              refine j_aload_n C 63 0 dX8_join_63 rfl rfl ?_
              refine j_get C 64 (ci := 8) hL rfl 0 (wm_o0 bd c (upR Z 40 (fun _ => nI (2))) L) 0 (by decide) f73 rfl (v := .int (nI (2))) rfl dX8_join_64 ?_
              refine j_if_le_n C 67 74 (by omega) dX8_join_67 (by decide) (fun h => absurd h (by omega)) (fun _ => ?_)
              refine j_iconst C 70 (v := nI 0) dX8_join_70 rfl ?_
              refine j_goto C 71 90 dX8_join_71 (by decide) ?_
              have hk9 : k_join n τ (nI p) (nI q) = 2 := by unfold k_join; rw [if_neg (fun z => z.elim (fun z => z hb) (fun z => z hb2)), if_pos (Or.inl (congrArg nI h39))]
              exact j_ireti C hr E (Nat.le_refl _) (Nat.le_refl _) rfl (upR Z 40 (fun _ => nI (2))) ⟨by rw [hk9]; rfl, fun z => absurd z (by rw [hk9]; decide), fun _ => g_SM_40 hSM _⟩ rfl dX8_join_90
      | false =>
        refine j_aload_n C 0 0 dX8_join_0 rfl rfl ?_
        refine j_aload_n C 1 0 dX8_join_1 rfl rfl ?_
        refine j_iload_n C 2 1 dX8_join_2 rfl rfl ?_
        refine j_callI (mc := 0) (ms := 0) C 3 (c_X8_isTerm (jl κ) D bd c Z L n (nI (p)) hz) gX8_join_X8_isTerm rfl rfl rfl hd_X8_isTerm (by rw [hR]; exact ⟨Nat.le_of_ble_eq_true rfl, Nat.le_of_ble_eq_true rfl⟩) (ci := 8) rfl 0 (wm_o0 bd c Z L) rfl (Nat.le_of_ble_eq_true rfl) ⟨Nat.zero_le _, Nat.zero_le _⟩ dX8_join_3 (fun r3 _ e3 => ?_)
        refine j_eqi (y := b2 true) (e3.trans (by rw [decide_eq_true hb])) ?_
        refine j_if_eq_b C 6 (b := true) 17 dX8_join_6 (by decide) (fun h => by cases h) (fun _ => ?_)
        refine j_aload_n C 9 0 dX8_join_9 rfl rfl ?_
        refine j_iload_n C 10 2 dX8_join_10 rfl rfl ?_
        refine j_callI (mc := 0) (ms := 0) C 11 (c_X8_isTerm (jl κ) D bd c Z L n (nI (q)) hz) gX8_join_X8_isTerm rfl rfl rfl hd_X8_isTerm (by rw [hR]; exact ⟨Nat.le_of_ble_eq_true rfl, Nat.le_of_ble_eq_true rfl⟩) (ci := 8) rfl 0 (wm_o0 bd c Z L) rfl (Nat.le_of_ble_eq_true rfl) ⟨Nat.zero_le _, Nat.zero_le _⟩ dX8_join_11 (fun r11 _ e11 => ?_)
        refine j_eqi (y := b2 true) (e11.trans (by rw [decide_eq_true hb2])) ?_
        refine j_if_ne_b C 14 (b := true) 21 dX8_join_14 (by decide) (fun _ => ?_) (fun h => by cases h)
        refine j_aload_n C 21 0 dX8_join_21 rfl rfl ?_
        refine j_iload_n C 22 1 dX8_join_22 rfl rfl ?_
        refine j_callI (mc := 0) (ms := 0) C 23 (c_X8_isPart (jl κ) D bd c Z L p hwf hE hpn) gX8_join_X8_isPart rfl rfl rfl hd_X8_isPart (by rw [hR]; exact ⟨Nat.le_of_ble_eq_true rfl, Nat.le_of_ble_eq_true rfl⟩) (ci := 8) rfl 0 (wm_o0 bd c Z L) rfl (Nat.le_of_ble_eq_true rfl) ⟨Nat.zero_le _, Nat.zero_le _⟩ dX8_join_23 (fun r23 _ e23 => ?_)
        subst e23
        refine j_if_ne_b C 26 42 dX8_join_26 (by decide) (fun h26 => ?_) (fun h26 => ?_)
        · refine j_iconst C 42 (v := nI 2) dX8_join_42 rfl ?_
          refine j_goto C 43 60 dX8_join_43 (by decide) ?_
          refine j_put C 60 (ci := 8) hL tyX8_ok nmX8 rfl 0 (wm_o0 bd c Z L) 0 (by decide) f73 rfl rfl (tyX8_ok 0 (by decide)) rfl rfl (Nat.le_of_ble_eq_true rfl) (wm_p40 bd c Z L (nI (2))) dX8_join_60 ?_
          refine j_aload_n C 63 0 dX8_join_63 rfl rfl ?_
          refine j_get C 64 (ci := 8) hL rfl 0 (wm_o0 bd c (upR Z 40 (fun _ => nI (2))) L) 0 (by decide) f73 rfl (v := .int (nI (2))) rfl dX8_join_64 ?_
          refine j_if_le_n C 67 74 (by omega) dX8_join_67 (by decide) (fun h => absurd h (by omega)) (fun _ => ?_)
          refine j_iconst C 70 (v := nI 0) dX8_join_70 rfl ?_
          refine j_goto C 71 90 dX8_join_71 (by decide) ?_
          have hk9 : k_join n τ (nI p) (nI q) = 2 := by unfold k_join; rw [if_neg (fun z => z.elim (fun z => z hb) (fun z => z hb2)), if_pos (Or.inr (Or.inl (by rw [hcp]; exact of_decide_eq_true h26)))]
          exact j_ireti C hr E (Nat.le_refl _) (Nat.le_refl _) rfl (upR Z 40 (fun _ => nI (2))) ⟨by rw [hk9]; rfl, fun z => absurd z (by rw [hk9]; decide), fun _ => g_SM_40 hSM _⟩ rfl dX8_join_90
        · refine j_aload_n C 29 0 dX8_join_29 rfl rfl ?_
          refine j_iload_n C 30 2 dX8_join_30 rfl rfl ?_
          refine j_callI (mc := 0) (ms := 0) C 31 (c_X8_isPart (jl κ) D bd c Z L q hwf hE hqn) gX8_join_X8_isPart rfl rfl rfl hd_X8_isPart (by rw [hR]; exact ⟨Nat.le_of_ble_eq_true rfl, Nat.le_of_ble_eq_true rfl⟩) (ci := 8) rfl 0 (wm_o0 bd c Z L) rfl (Nat.le_of_ble_eq_true rfl) ⟨Nat.zero_le _, Nat.zero_le _⟩ dX8_join_31 (fun r31 _ e31 => ?_)
          subst e31
          refine j_if_ne_b C 34 42 dX8_join_34 (by decide) (fun h34 => ?_) (fun h34 => ?_)
          · refine j_iconst C 42 (v := nI 2) dX8_join_42 rfl ?_
            refine j_goto C 43 60 dX8_join_43 (by decide) ?_
            refine j_put C 60 (ci := 8) hL tyX8_ok nmX8 rfl 0 (wm_o0 bd c Z L) 0 (by decide) f73 rfl rfl (tyX8_ok 0 (by decide)) rfl rfl (Nat.le_of_ble_eq_true rfl) (wm_p40 bd c Z L (nI (2))) dX8_join_60 ?_
            refine j_aload_n C 63 0 dX8_join_63 rfl rfl ?_
            refine j_get C 64 (ci := 8) hL rfl 0 (wm_o0 bd c (upR Z 40 (fun _ => nI (2))) L) 0 (by decide) f73 rfl (v := .int (nI (2))) rfl dX8_join_64 ?_
            refine j_if_le_n C 67 74 (by omega) dX8_join_67 (by decide) (fun h => absurd h (by omega)) (fun _ => ?_)
            refine j_iconst C 70 (v := nI 0) dX8_join_70 rfl ?_
            refine j_goto C 71 90 dX8_join_71 (by decide) ?_
            have hk9 : k_join n τ (nI p) (nI q) = 2 := by unfold k_join; rw [if_neg (fun z => z.elim (fun z => z hb) (fun z => z hb2)), if_pos (Or.inr (Or.inr (by rw [hcq]; exact of_decide_eq_true h34)))]
            exact j_ireti C hr E (Nat.le_refl _) (Nat.le_refl _) rfl (upR Z 40 (fun _ => nI (2))) ⟨by rw [hk9]; rfl, fun z => absurd z (by rw [hk9]; decide), fun _ => g_SM_40 hSM _⟩ rfl dX8_join_90
          · refine j_iload_n C 37 1 dX8_join_37 rfl rfl ?_
            refine j_iload_n C 38 2 dX8_join_38 rfl rfl ?_
            refine j_icmp_ne_n C 39 46 (by omega) (by omega) dX8_join_39 (by decide) (fun h39 => ?_) (fun h39 => ?_)
            · have hno : ¬ (nI p = nI q ∨ g_ip τ (cN (nI p)) = 1 ∨ g_ip τ (cN (nI q)) = 1) := fun z => z.elim (fun z => h39 ((nI_eq (by omega) (by omega)).mp z)) (fun z => z.elim (fun z => of_decide_eq_false h26 (by rw [hcp] at z; exact z)) (fun z => of_decide_eq_false h34 (by rw [hcq] at z; exact z)))
              refine j_aload_n C 46 0 dX8_join_46 rfl rfl ?_
              refine j_get C 47 (ci := 8) hL rfl 0 (wm_o0 bd c Z L) 1 (by decide) f76 rfl (v := .int (Z 41 0)) rfl dX8_join_47 ?_
              refine j_eqi hz ?_
              refine j_bipush C 50 (v := nI 48) dX8_join_50 rfl ?_
              refine j_icmp_ne_n C 52 59 (by omega) (by omega) dX8_join_52 (by decide) (fun h52 => ?_) (fun h52 => ?_)
              · have hn48 : n < 48 := by have := hwf.1; omega
                refine j_iconst C 59 (v := nI 0) dX8_join_59 rfl ?_
                refine j_put C 60 (ci := 8) hL tyX8_ok nmX8 rfl 0 (wm_o0 bd c Z L) 0 (by decide) f73 rfl rfl (tyX8_ok 0 (by decide)) rfl rfl (Nat.le_of_ble_eq_true rfl) (wm_p40 bd c Z L (nI (0))) dX8_join_60 ?_
                refine j_aload_n C 63 0 dX8_join_63 rfl rfl ?_
                refine j_get C 64 (ci := 8) hL rfl 0 (wm_o0 bd c (upR Z 40 (fun _ => nI (0))) L) 0 (by decide) f73 rfl (v := .int (nI (0))) rfl dX8_join_64 ?_
                refine j_if_le_n C 67 74 (by omega) dX8_join_67 (by decide) (fun _ => ?_) (fun h => absurd h (by omega))
                refine j_aload_n C 74 0 dX8_join_74 rfl rfl ?_
                refine j_iload_n C 75 3 dX8_join_75 rfl rfl ?_
                refine j_if_eq_b C 76 (b := false) 83 dX8_join_76 (by decide) (fun _ => ?_) (fun h => by cases h)
                refine j_iconst C 83 (v := nI 3) dX8_join_83 rfl ?_
                refine j_iconst C 84 (v := nI 0) dX8_join_84 rfl ?_
                refine j_iload_n C 85 1 dX8_join_85 rfl rfl ?_
                refine j_iload_n C 86 2 dX8_join_86 rfl rfl ?_
                refine j_callI (mc := 0) (ms := 0) C 87 (c_X8_add (jl κ) D bd c (upR Z 40 (fun _ => nI (0))) L 3 0 [p, q] (nI 0) (nI p) (nI q) hwf hE hz (g_NC_2 hn48 (by decide) hpn hqn (of_decide_eq_false h26) (of_decide_eq_false h34) h39 (hE p hpn).2.2.2.2.2.2 (hE q hqn).2.2.2.2.2.2) (fun z => by omega) rfl rfl) gX8_join_X8_add rfl rfl rfl hd_X8_add (by rw [hR]; exact ⟨Nat.le_of_ble_eq_true rfl, Nat.le_of_ble_eq_true rfl⟩) (ci := 8) rfl 0 (wm_o0 bd c (upR Z 40 (fun _ => nI (0))) L) rfl (Nat.le_of_ble_eq_true rfl) ⟨Nat.zero_le _, Nat.zero_le _⟩ dX8_join_87 (fun r87 Z87 q87 => ?_)
                refine j_eqi q87.1 ?_
                have hnew := g_SM_new (g_SM_40 hSM _) (g_WF_new hwf (g_NC_2 hn48 (by decide) hpn hqn (of_decide_eq_false h26) (of_decide_eq_false h34) h39 (hE p hpn).2.2.2.2.2.2 (hE q hqn).2.2.2.2.2.2)) q87.2.1 q87.2.2.1 q87.2.2.2
                have h40n : Z87 40 0 = nI 0 := congrFun (q87.2.2.2 40 (by decide)) 0
                have hk9 : k_join n τ (nI p) (nI q) = 0 := by unfold k_join; rw [if_neg (fun z => z.elim (fun z => z hb) (fun z => z hb2)), if_neg hno, if_neg h52]
                exact j_ireti C hr E (Nat.le_refl _) (Nat.le_refl _) rfl Z87 ⟨by rw [hk9]; exact h40n, fun _ => ⟨rfl, by unfold t_join; rw [hcp, hcq]; exact hnew⟩, fun z => absurd hk9 z⟩ rfl dX8_join_90
              · refine j_iconst C 55 (v := nI 3) dX8_join_55 rfl ?_
                refine j_goto C 56 60 dX8_join_56 (by decide) ?_
                refine j_put C 60 (ci := 8) hL tyX8_ok nmX8 rfl 0 (wm_o0 bd c Z L) 0 (by decide) f73 rfl rfl (tyX8_ok 0 (by decide)) rfl rfl (Nat.le_of_ble_eq_true rfl) (wm_p40 bd c Z L (nI (3))) dX8_join_60 ?_
                refine j_aload_n C 63 0 dX8_join_63 rfl rfl ?_
                refine j_get C 64 (ci := 8) hL rfl 0 (wm_o0 bd c (upR Z 40 (fun _ => nI (3))) L) 0 (by decide) f73 rfl (v := .int (nI (3))) rfl dX8_join_64 ?_
                refine j_if_le_n C 67 74 (by omega) dX8_join_67 (by decide) (fun h => absurd h (by omega)) (fun _ => ?_)
                refine j_iconst C 70 (v := nI 0) dX8_join_70 rfl ?_
                refine j_goto C 71 90 dX8_join_71 (by decide) ?_
                have hk9 : k_join n τ (nI p) (nI q) = 3 := by unfold k_join; rw [if_neg (fun z => z.elim (fun z => z hb) (fun z => z hb2)), if_neg hno, if_pos h52]
                exact j_ireti C hr E (Nat.le_refl _) (Nat.le_refl _) rfl (upR Z 40 (fun _ => nI (3))) ⟨by rw [hk9]; rfl, fun z => absurd z (by rw [hk9]; decide), fun _ => g_SM_40 hSM _⟩ rfl dX8_join_90
            · refine j_iconst C 42 (v := nI 2) dX8_join_42 rfl ?_
              refine j_goto C 43 60 dX8_join_43 (by decide) ?_
              refine j_put C 60 (ci := 8) hL tyX8_ok nmX8 rfl 0 (wm_o0 bd c Z L) 0 (by decide) f73 rfl rfl (tyX8_ok 0 (by decide)) rfl rfl (Nat.le_of_ble_eq_true rfl) (wm_p40 bd c Z L (nI (2))) dX8_join_60 ?_
              refine j_aload_n C 63 0 dX8_join_63 rfl rfl ?_
              refine j_get C 64 (ci := 8) hL rfl 0 (wm_o0 bd c (upR Z 40 (fun _ => nI (2))) L) 0 (by decide) f73 rfl (v := .int (nI (2))) rfl dX8_join_64 ?_
              refine j_if_le_n C 67 74 (by omega) dX8_join_67 (by decide) (fun h => absurd h (by omega)) (fun _ => ?_)
              refine j_iconst C 70 (v := nI 0) dX8_join_70 rfl ?_
              refine j_goto C 71 90 dX8_join_71 (by decide) ?_
              have hk9 : k_join n τ (nI p) (nI q) = 2 := by unfold k_join; rw [if_neg (fun z => z.elim (fun z => z hb) (fun z => z hb2)), if_pos (Or.inl (congrArg nI h39))]
              exact j_ireti C hr E (Nat.le_refl _) (Nat.le_refl _) rfl (upR Z 40 (fun _ => nI (2))) ⟨by rw [hk9]; rfl, fun z => absurd z (by rw [hk9]; decide), fun _ => g_SM_40 hSM _⟩ rfl dX8_join_90
    · refine j_aload_n C 0 0 dX8_join_0 rfl rfl ?_
      refine j_aload_n C 1 0 dX8_join_1 rfl rfl ?_
      refine j_iload_n C 2 1 dX8_join_2 rfl rfl ?_
      refine j_callI (mc := 0) (ms := 0) C 3 (c_X8_isTerm (jl κ) D bd c Z L n (nI (p)) hz) gX8_join_X8_isTerm rfl rfl rfl hd_X8_isTerm (by rw [hR]; exact ⟨Nat.le_of_ble_eq_true rfl, Nat.le_of_ble_eq_true rfl⟩) (ci := 8) rfl 0 (wm_o0 bd c Z L) rfl (Nat.le_of_ble_eq_true rfl) ⟨Nat.zero_le _, Nat.zero_le _⟩ dX8_join_3 (fun r3 _ e3 => ?_)
      refine j_eqi (y := b2 true) (e3.trans (by rw [decide_eq_true hb])) ?_
      refine j_if_eq_b C 6 (b := true) 17 dX8_join_6 (by decide) (fun h => by cases h) (fun _ => ?_)
      refine j_aload_n C 9 0 dX8_join_9 rfl rfl ?_
      refine j_iload_n C 10 2 dX8_join_10 rfl rfl ?_
      refine j_callI (mc := 0) (ms := 0) C 11 (c_X8_isTerm (jl κ) D bd c Z L n (b) hz) gX8_join_X8_isTerm rfl rfl rfl hd_X8_isTerm (by rw [hR]; exact ⟨Nat.le_of_ble_eq_true rfl, Nat.le_of_ble_eq_true rfl⟩) (ci := 8) rfl 0 (wm_o0 bd c Z L) rfl (Nat.le_of_ble_eq_true rfl) ⟨Nat.zero_le _, Nat.zero_le _⟩ dX8_join_11 (fun r11 _ e11 => ?_)
      refine j_eqi (y := b2 false) (e11.trans (by rw [decide_eq_false hb2])) ?_
      refine j_if_ne_b C 14 (b := false) 21 dX8_join_14 (by decide) (fun h => by cases h) (fun _ => ?_)
      refine j_iconst C 17 (v := nI 1) dX8_join_17 rfl ?_
      refine j_goto C 18 60 dX8_join_18 (by decide) ?_
      refine j_put C 60 (ci := 8) hL tyX8_ok nmX8 rfl 0 (wm_o0 bd c Z L) 0 (by decide) f73 rfl rfl (tyX8_ok 0 (by decide)) rfl rfl (Nat.le_of_ble_eq_true rfl) (wm_p40 bd c Z L (nI (1))) dX8_join_60 ?_
      refine j_aload_n C 63 0 dX8_join_63 rfl rfl ?_
      refine j_get C 64 (ci := 8) hL rfl 0 (wm_o0 bd c (upR Z 40 (fun _ => nI (1))) L) 0 (by decide) f73 rfl (v := .int (nI (1))) rfl dX8_join_64 ?_
      refine j_if_le_n C 67 74 (by omega) dX8_join_67 (by decide) (fun h => absurd h (by omega)) (fun _ => ?_)
      refine j_iconst C 70 (v := nI 0) dX8_join_70 rfl ?_
      refine j_goto C 71 90 dX8_join_71 (by decide) ?_
      have hk9 : k_join n τ (nI p) b = 1 := by unfold k_join; rw [if_pos (Or.inr hb2)]
      exact j_ireti C hr E (Nat.le_refl _) (Nat.le_refl _) rfl (upR Z 40 (fun _ => nI (1))) ⟨by rw [hk9]; rfl, fun z => absurd z (by rw [hk9]; decide), fun _ => g_SM_40 hSM _⟩ rfl dX8_join_90
  · refine j_aload_n C 0 0 dX8_join_0 rfl rfl ?_
    refine j_aload_n C 1 0 dX8_join_1 rfl rfl ?_
    refine j_iload_n C 2 1 dX8_join_2 rfl rfl ?_
    refine j_callI (mc := 0) (ms := 0) C 3 (c_X8_isTerm (jl κ) D bd c Z L n (a) hz) gX8_join_X8_isTerm rfl rfl rfl hd_X8_isTerm (by rw [hR]; exact ⟨Nat.le_of_ble_eq_true rfl, Nat.le_of_ble_eq_true rfl⟩) (ci := 8) rfl 0 (wm_o0 bd c Z L) rfl (Nat.le_of_ble_eq_true rfl) ⟨Nat.zero_le _, Nat.zero_le _⟩ dX8_join_3 (fun r3 _ e3 => ?_)
    refine j_eqi (y := b2 false) (e3.trans (by rw [decide_eq_false hb])) ?_
    refine j_if_eq_b C 6 (b := false) 17 dX8_join_6 (by decide) (fun _ => ?_) (fun h => by cases h)
    refine j_iconst C 17 (v := nI 1) dX8_join_17 rfl ?_
    refine j_goto C 18 60 dX8_join_18 (by decide) ?_
    refine j_put C 60 (ci := 8) hL tyX8_ok nmX8 rfl 0 (wm_o0 bd c Z L) 0 (by decide) f73 rfl rfl (tyX8_ok 0 (by decide)) rfl rfl (Nat.le_of_ble_eq_true rfl) (wm_p40 bd c Z L (nI (1))) dX8_join_60 ?_
    refine j_aload_n C 63 0 dX8_join_63 rfl rfl ?_
    refine j_get C 64 (ci := 8) hL rfl 0 (wm_o0 bd c (upR Z 40 (fun _ => nI (1))) L) 0 (by decide) f73 rfl (v := .int (nI (1))) rfl dX8_join_64 ?_
    refine j_if_le_n C 67 74 (by omega) dX8_join_67 (by decide) (fun h => absurd h (by omega)) (fun _ => ?_)
    refine j_iconst C 70 (v := nI 0) dX8_join_70 rfl ?_
    refine j_goto C 71 90 dX8_join_71 (by decide) ?_
    have hk9 : k_join n τ a b = 1 := by unfold k_join; rw [if_pos (Or.inl hb)]
    exact j_ireti C hr E (Nat.le_refl _) (Nat.le_refl _) rfl (upR Z 40 (fun _ => nI (1))) ⟨by rw [hk9]; rfl, fun z => absurd z (by rw [hk9]; decide), fun _ => g_SM_40 hSM _⟩ rfl dX8_join_90
set_option maxHeartbeats 4000000 in
set_option maxRecDepth 100000 in
theorem c_X8_knot (ll : Launch) (D : va_G) (bd : Nat → Nat) (c : Nat → ClassId) (Z : ZT) (L : LT) {n : Nat} {τ : Tb} {w : List Nat} {st : Int32} {tr : List Nat} (x a : Int32) (hSM : g_SM n τ w st tr Z) : cI (S := ZT) ll yX8_knot vsX8_knot ({ frames := 1, cells := 0, slots := 0, locals := 25 } : Room) D (tysG c) [.ref (bd 0), .int (x), .int (a)] (wm bd c Z L) (fun Z' => wm bd c Z' L) (fun r Z' => Z' 40 0 = nI (k_knot n τ x a) ∧ (k_knot n τ x a = 0 → r = nI n ∧ g_SM (n + 1) (t_knot n τ x a) w st tr Z') ∧ (k_knot n τ x a ≠ 0 → g_SM n τ w st tr Z')) 0 0 := by
  refine cI_start (cc := cX8_knot) (maxL := 3) RX8 rfl (by decide +kernel) rfl (Nat.le_of_ble_eq_true rfl) ?_
  intro κ hlκ C hr _ E hR hn
  subst hlκ
  have hL : ∀ w ∈ u_ws RX8 TX8 28, w.before (ja κ) (js κ) = true := fun w h => C.t w (mX8_knot_wsX80 w h)
  have f76 : (Cond.fieldLink RX8 76 "GuardedGrammarModel" (TX8 1).2.1 (TX8 1).2.2.1).before (ja κ) (js κ) = true := C.t (.fieldLink RX8 76 "GuardedGrammarModel" "terms" "I") (mX8_knot_o _ (by decide +kernel))
  have f25 : (Cond.fieldLink RX8 25 "GuardedGrammarModel" (TX8 7).2.1 (TX8 7).2.2.1).before (ja κ) (js κ) = true := C.t (.fieldLink RX8 25 "GuardedGrammarModel" "knots" "[I") (mX8_knot_o _ (by decide +kernel))
  have f73 : (Cond.fieldLink RX8 73 "GuardedGrammarModel" (TX8 0).2.1 (TX8 0).2.2.1).before (ja κ) (js κ) = true := C.t (.fieldLink RX8 73 "GuardedGrammarModel" "thrown" "I") (mX8_knot_o _ (by decide +kernel))
  show J D κ 0 0 0 [(0, .ref (bd 0)), (1, .int (x)), (2, .int (a))] [] (wm bd c Z L)
  obtain ⟨hwf, hE, hz, hwd, h43, h44, htr, htl⟩ := id hSM
  have ht48 := hwf.1
  by_cases hb : bT n a
  · obtain ⟨p, hpn, rfl⟩ := (bT_iff hwf.1).mp hb
    have hcp : cN (nI p) = p := nI_clamp (by have := hwf.1; omega)
    refine j_aload_n C 0 0 dX8_knot_0 rfl rfl ?_
    refine j_aload_n C 1 0 dX8_knot_1 rfl rfl ?_
    refine j_iload_n C 2 2 dX8_knot_2 rfl rfl ?_
    refine j_callI (mc := 0) (ms := 0) C 3 (c_X8_isTerm (jl κ) D bd c Z L n (nI (p)) hz) gX8_knot_X8_isTerm rfl rfl rfl hd_X8_isTerm (by rw [hR]; exact ⟨Nat.le_of_ble_eq_true rfl, Nat.le_of_ble_eq_true rfl⟩) (ci := 8) rfl 0 (wm_o0 bd c Z L) rfl (Nat.le_of_ble_eq_true rfl) ⟨Nat.zero_le _, Nat.zero_le _⟩ dX8_knot_3 (fun r3 _ e3 => ?_)
    refine j_eqi (y := b2 true) (e3.trans (by rw [decide_eq_true hb])) ?_
    refine j_if_ne_b C 6 (b := true) 13 dX8_knot_6 (by decide) (fun _ => ?_) (fun h => by cases h)
    refine j_aload_n C 13 0 dX8_knot_13 rfl rfl ?_
    refine j_iload_n C 14 2 dX8_knot_14 rfl rfl ?_
    refine j_callI (mc := 0) (ms := 0) C 15 (c_X8_isPart (jl κ) D bd c Z L p hwf hE hpn) gX8_knot_X8_isPart rfl rfl rfl hd_X8_isPart (by rw [hR]; exact ⟨Nat.le_of_ble_eq_true rfl, Nat.le_of_ble_eq_true rfl⟩) (ci := 8) rfl 0 (wm_o0 bd c Z L) rfl (Nat.le_of_ble_eq_true rfl) ⟨Nat.zero_le _, Nat.zero_le _⟩ dX8_knot_15 (fun r15 _ e15 => ?_)
    subst e15
    refine j_if_eq_b C 18 25 dX8_knot_18 (by decide) (fun h18 => ?_) (fun h18 => ?_)
    · refine j_iload_n C 25 1 dX8_knot_25 rfl rfl ?_
      refine j_if_lt C 26 34 dX8_knot_26 (by decide) (fun h26 => ?_) (fun h26 => ?_)
      · refine j_iconst C 34 (v := nI 3) dX8_knot_34 rfl ?_
        refine j_goto C 35 62 dX8_knot_35 (by decide) ?_
        refine j_put C 62 (ci := 8) hL tyX8_ok nmX8 rfl 0 (wm_o0 bd c Z L) 0 (by decide) f73 rfl rfl (tyX8_ok 0 (by decide)) rfl rfl (Nat.le_of_ble_eq_true rfl) (wm_p40 bd c Z L (nI (3))) dX8_knot_62 ?_
        refine j_aload_n C 65 0 dX8_knot_65 rfl rfl ?_
        refine j_get C 66 (ci := 8) hL rfl 0 (wm_o0 bd c (upR Z 40 (fun _ => nI (3))) L) 0 (by decide) f73 rfl (v := .int (nI (3))) rfl dX8_knot_66 ?_
        refine j_if_le_n C 69 76 (by omega) dX8_knot_69 (by decide) (fun h => absurd h (by omega)) (fun _ => ?_)
        refine j_iconst C 72 (v := nI 0) dX8_knot_72 rfl ?_
        refine j_goto C 73 85 dX8_knot_73 (by decide) ?_
        have hk9 : k_knot n τ x (nI p) = 3 := by unfold k_knot; rw [if_neg (fun z => z hb), if_neg (by rw [hcp]; exact of_decide_eq_false h18), if_pos (Or.inl h26)]
        exact j_ireti C hr E (Nat.le_refl _) (Nat.le_refl _) rfl (upR Z 40 (fun _ => nI (3))) ⟨by rw [hk9]; rfl, fun z => absurd z (by rw [hk9]; decide), fun _ => g_SM_40 hSM _⟩ rfl dX8_knot_85
      · refine j_iload_n C 29 1 dX8_knot_29 rfl rfl ?_
        refine j_iconst C 30 (v := nI 3) dX8_knot_30 rfl ?_
        refine j_icmp_le C 31 38 dX8_knot_31 (by decide) (fun h31 => ?_) (fun h31 => ?_)
        · have h4x : x < nI 4 := (e_le_lt (by decide)).mp h31
          have hx4 : cN x < 4 ∧ x = nI (cN x) := by
            obtain ⟨t, ht, e⟩ := e_in (by decide) h26 h4x
            have e2 : cN x = t := by rw [e]; exact nI_clamp (by omega)
            rw [e2]; exact ⟨ht, e⟩
          have hp6 := (hE p hpn).2.2.2.2.2
          refine j_aload_n C 38 0 dX8_knot_38 rfl rfl ?_
          refine j_get C 39 (ci := 8) hL rfl 0 (wm_o0 bd c Z L) 1 (by decide) f76 rfl (v := .int (Z 41 0)) rfl dX8_knot_39 ?_
          refine j_eqi hz ?_
          refine j_bipush C 42 (v := nI 48) dX8_knot_42 rfl ?_
          refine j_icmp_eq_n C 44 57 (by omega) (by omega) dX8_knot_44 (by decide) (fun h44 => ?_) (fun h44 => ?_)
          · refine j_iconst C 57 (v := nI 4) dX8_knot_57 rfl ?_
            refine j_goto C 58 62 dX8_knot_58 (by decide) ?_
            refine j_put C 62 (ci := 8) hL tyX8_ok nmX8 rfl 0 (wm_o0 bd c Z L) 0 (by decide) f73 rfl rfl (tyX8_ok 0 (by decide)) rfl rfl (Nat.le_of_ble_eq_true rfl) (wm_p40 bd c Z L (nI (4))) dX8_knot_62 ?_
            refine j_aload_n C 65 0 dX8_knot_65 rfl rfl ?_
            refine j_get C 66 (ci := 8) hL rfl 0 (wm_o0 bd c (upR Z 40 (fun _ => nI (4))) L) 0 (by decide) f73 rfl (v := .int (nI (4))) rfl dX8_knot_66 ?_
            refine j_if_le_n C 69 76 (by omega) dX8_knot_69 (by decide) (fun h => absurd h (by omega)) (fun _ => ?_)
            refine j_iconst C 72 (v := nI 0) dX8_knot_72 rfl ?_
            refine j_goto C 73 85 dX8_knot_73 (by decide) ?_
            have hk9 : k_knot n τ x (nI p) = 4 := by unfold k_knot; rw [if_neg (fun z => z hb), if_neg (by rw [hcp]; exact of_decide_eq_false h18), if_neg (fun z => z.elim h26 (fun z => absurd ((e_le_lt (by decide)).mp h31) (Int32.not_lt.mpr z))), if_pos (Or.inl h44)]
            exact j_ireti C hr E (Nat.le_refl _) (Nat.le_refl _) rfl (upR Z 40 (fun _ => nI (4))) ⟨by rw [hk9]; rfl, fun z => absurd z (by rw [hk9]; decide), fun _ => g_SM_40 hSM _⟩ rfl dX8_knot_85
          · refine j_aload_n C 47 0 dX8_knot_47 rfl rfl ?_
            refine j_get C 48 (ci := 8) hL rfl 0 (wm_o0 bd c Z L) 7 (by decide) f25 rfl (v := .ref (bd 6)) rfl dX8_knot_48 ?_
            refine j_iload_n C 51 2 dX8_knot_51 rfl rfl ?_
            refine j_iald C 52 6 0 (f := Z 6) (wm_a6 bd c Z L) rfl (by omega) (by decide) dX8_knot_52 ?_
            refine j_eqi hp6.1 ?_
            refine j_iconst C 53 (v := nI 3) dX8_knot_53 rfl ?_
            refine j_icmp_ne_n C 54 61 (by omega) (by omega) dX8_knot_54 (by decide) (fun h54 => ?_) (fun h54 => ?_)
            · have hn48 : n < 48 := by have := hwf.1; omega
              have hk3 : τ 6 p < 3 := by have := hp6.2; omega
              refine j_iconst C 61 (v := nI 0) dX8_knot_61 rfl ?_
              refine j_put C 62 (ci := 8) hL tyX8_ok nmX8 rfl 0 (wm_o0 bd c Z L) 0 (by decide) f73 rfl rfl (tyX8_ok 0 (by decide)) rfl rfl (Nat.le_of_ble_eq_true rfl) (wm_p40 bd c Z L (nI (0))) dX8_knot_62 ?_
              refine j_aload_n C 65 0 dX8_knot_65 rfl rfl ?_
              refine j_get C 66 (ci := 8) hL rfl 0 (wm_o0 bd c (upR Z 40 (fun _ => nI (0))) L) 0 (by decide) f73 rfl (v := .int (nI (0))) rfl dX8_knot_66 ?_
              refine j_if_le_n C 69 76 (by omega) dX8_knot_69 (by decide) (fun _ => ?_) (fun h => absurd h (by omega))
              refine j_aload_n C 76 0 dX8_knot_76 rfl rfl ?_
              refine j_bipush C 77 (v := nI 6) dX8_knot_77 rfl ?_
              refine j_iload_n C 79 1 dX8_knot_79 rfl rfl ?_
              refine j_iload_n C 80 2 dX8_knot_80 rfl rfl ?_
              refine j_iconst C 81 (v := -1) dX8_knot_81 rfl ?_
              refine j_callI (mc := 0) (ms := 0) C 82 (c_X8_add (jl κ) D bd c (upR Z 40 (fun _ => nI (0))) L 6 (cN x) [p] x (nI p) (-1) hwf hE hz (g_NC_1 hn48 hx4.1 hpn (of_decide_eq_false h18) hk3) (fun _ => hx4.2) rfl rfl) gX8_knot_X8_add rfl rfl rfl hd_X8_add (by rw [hR]; exact ⟨Nat.le_of_ble_eq_true rfl, Nat.le_of_ble_eq_true rfl⟩) (ci := 8) rfl 0 (wm_o0 bd c (upR Z 40 (fun _ => nI (0))) L) rfl (Nat.le_of_ble_eq_true rfl) ⟨Nat.zero_le _, Nat.zero_le _⟩ dX8_knot_82 (fun r82 Z82 q82 => ?_)
              refine j_eqi q82.1 ?_
              have hnew := g_SM_new (g_SM_40 hSM _) (g_WF_new hwf (g_NC_1 hn48 hx4.1 hpn (of_decide_eq_false h18) hk3)) q82.2.1 q82.2.2.1 q82.2.2.2
              have h40n : Z82 40 0 = nI 0 := congrFun (q82.2.2.2 40 (by decide)) 0
              have hk9 : k_knot n τ x (nI p) = 0 := by unfold k_knot; rw [if_neg (fun z => z hb), if_neg (by rw [hcp]; exact of_decide_eq_false h18), if_neg (fun z => z.elim h26 (fun z => absurd ((e_le_lt (by decide)).mp h31) (Int32.not_lt.mpr z))), if_neg (fun z => z.elim h44 (fun z => by rw [hcp] at z; omega))]
              exact j_ireti C hr E (Nat.le_refl _) (Nat.le_refl _) rfl Z82 ⟨by rw [hk9]; exact h40n, fun _ => ⟨rfl, by unfold t_knot; rw [hcp]; exact hnew⟩, fun z => absurd hk9 z⟩ rfl dX8_knot_85
            · refine j_iconst C 57 (v := nI 4) dX8_knot_57 rfl ?_
              refine j_goto C 58 62 dX8_knot_58 (by decide) ?_
              refine j_put C 62 (ci := 8) hL tyX8_ok nmX8 rfl 0 (wm_o0 bd c Z L) 0 (by decide) f73 rfl rfl (tyX8_ok 0 (by decide)) rfl rfl (Nat.le_of_ble_eq_true rfl) (wm_p40 bd c Z L (nI (4))) dX8_knot_62 ?_
              refine j_aload_n C 65 0 dX8_knot_65 rfl rfl ?_
              refine j_get C 66 (ci := 8) hL rfl 0 (wm_o0 bd c (upR Z 40 (fun _ => nI (4))) L) 0 (by decide) f73 rfl (v := .int (nI (4))) rfl dX8_knot_66 ?_
              refine j_if_le_n C 69 76 (by omega) dX8_knot_69 (by decide) (fun h => absurd h (by omega)) (fun _ => ?_)
              refine j_iconst C 72 (v := nI 0) dX8_knot_72 rfl ?_
              refine j_goto C 73 85 dX8_knot_73 (by decide) ?_
              have hk9 : k_knot n τ x (nI p) = 4 := by unfold k_knot; rw [if_neg (fun z => z hb), if_neg (by rw [hcp]; exact of_decide_eq_false h18), if_neg (fun z => z.elim h26 (fun z => absurd ((e_le_lt (by decide)).mp h31) (Int32.not_lt.mpr z))), if_pos (Or.inr (by rw [hcp]; omega))]
              exact j_ireti C hr E (Nat.le_refl _) (Nat.le_refl _) rfl (upR Z 40 (fun _ => nI (4))) ⟨by rw [hk9]; rfl, fun z => absurd z (by rw [hk9]; decide), fun _ => g_SM_40 hSM _⟩ rfl dX8_knot_85
        · refine j_iconst C 34 (v := nI 3) dX8_knot_34 rfl ?_
          refine j_goto C 35 62 dX8_knot_35 (by decide) ?_
          refine j_put C 62 (ci := 8) hL tyX8_ok nmX8 rfl 0 (wm_o0 bd c Z L) 0 (by decide) f73 rfl rfl (tyX8_ok 0 (by decide)) rfl rfl (Nat.le_of_ble_eq_true rfl) (wm_p40 bd c Z L (nI (3))) dX8_knot_62 ?_
          refine j_aload_n C 65 0 dX8_knot_65 rfl rfl ?_
          refine j_get C 66 (ci := 8) hL rfl 0 (wm_o0 bd c (upR Z 40 (fun _ => nI (3))) L) 0 (by decide) f73 rfl (v := .int (nI (3))) rfl dX8_knot_66 ?_
          refine j_if_le_n C 69 76 (by omega) dX8_knot_69 (by decide) (fun h => absurd h (by omega)) (fun _ => ?_)
          refine j_iconst C 72 (v := nI 0) dX8_knot_72 rfl ?_
          refine j_goto C 73 85 dX8_knot_73 (by decide) ?_
          have hk9 : k_knot n τ x (nI p) = 3 := by unfold k_knot; rw [if_neg (fun z => z hb), if_neg (by rw [hcp]; exact of_decide_eq_false h18), if_pos (Or.inr (Int32.not_lt.mp (fun z => h31 ((e_le_lt (by decide)).mpr z))))]
          exact j_ireti C hr E (Nat.le_refl _) (Nat.le_refl _) rfl (upR Z 40 (fun _ => nI (3))) ⟨by rw [hk9]; rfl, fun z => absurd z (by rw [hk9]; decide), fun _ => g_SM_40 hSM _⟩ rfl dX8_knot_85
    · refine j_iconst C 21 (v := nI 2) dX8_knot_21 rfl ?_
      refine j_goto C 22 62 dX8_knot_22 (by decide) ?_
      refine j_put C 62 (ci := 8) hL tyX8_ok nmX8 rfl 0 (wm_o0 bd c Z L) 0 (by decide) f73 rfl rfl (tyX8_ok 0 (by decide)) rfl rfl (Nat.le_of_ble_eq_true rfl) (wm_p40 bd c Z L (nI (2))) dX8_knot_62 ?_
      refine j_aload_n C 65 0 dX8_knot_65 rfl rfl ?_
      refine j_get C 66 (ci := 8) hL rfl 0 (wm_o0 bd c (upR Z 40 (fun _ => nI (2))) L) 0 (by decide) f73 rfl (v := .int (nI (2))) rfl dX8_knot_66 ?_
      refine j_if_le_n C 69 76 (by omega) dX8_knot_69 (by decide) (fun h => absurd h (by omega)) (fun _ => ?_)
      refine j_iconst C 72 (v := nI 0) dX8_knot_72 rfl ?_
      refine j_goto C 73 85 dX8_knot_73 (by decide) ?_
      have hk9 : k_knot n τ x (nI p) = 2 := by unfold k_knot; rw [if_neg (fun z => z hb), if_pos (by rw [hcp]; exact of_decide_eq_true h18)]
      exact j_ireti C hr E (Nat.le_refl _) (Nat.le_refl _) rfl (upR Z 40 (fun _ => nI (2))) ⟨by rw [hk9]; rfl, fun z => absurd z (by rw [hk9]; decide), fun _ => g_SM_40 hSM _⟩ rfl dX8_knot_85
  · refine j_aload_n C 0 0 dX8_knot_0 rfl rfl ?_
    refine j_aload_n C 1 0 dX8_knot_1 rfl rfl ?_
    refine j_iload_n C 2 2 dX8_knot_2 rfl rfl ?_
    refine j_callI (mc := 0) (ms := 0) C 3 (c_X8_isTerm (jl κ) D bd c Z L n (a) hz) gX8_knot_X8_isTerm rfl rfl rfl hd_X8_isTerm (by rw [hR]; exact ⟨Nat.le_of_ble_eq_true rfl, Nat.le_of_ble_eq_true rfl⟩) (ci := 8) rfl 0 (wm_o0 bd c Z L) rfl (Nat.le_of_ble_eq_true rfl) ⟨Nat.zero_le _, Nat.zero_le _⟩ dX8_knot_3 (fun r3 _ e3 => ?_)
    refine j_eqi (y := b2 false) (e3.trans (by rw [decide_eq_false hb])) ?_
    refine j_if_ne_b C 6 (b := false) 13 dX8_knot_6 (by decide) (fun h => by cases h) (fun _ => ?_)
    refine j_iconst C 9 (v := nI 1) dX8_knot_9 rfl ?_
    refine j_goto C 10 62 dX8_knot_10 (by decide) ?_
    refine j_put C 62 (ci := 8) hL tyX8_ok nmX8 rfl 0 (wm_o0 bd c Z L) 0 (by decide) f73 rfl rfl (tyX8_ok 0 (by decide)) rfl rfl (Nat.le_of_ble_eq_true rfl) (wm_p40 bd c Z L (nI (1))) dX8_knot_62 ?_
    refine j_aload_n C 65 0 dX8_knot_65 rfl rfl ?_
    refine j_get C 66 (ci := 8) hL rfl 0 (wm_o0 bd c (upR Z 40 (fun _ => nI (1))) L) 0 (by decide) f73 rfl (v := .int (nI (1))) rfl dX8_knot_66 ?_
    refine j_if_le_n C 69 76 (by omega) dX8_knot_69 (by decide) (fun h => absurd h (by omega)) (fun _ => ?_)
    refine j_iconst C 72 (v := nI 0) dX8_knot_72 rfl ?_
    refine j_goto C 73 85 dX8_knot_73 (by decide) ?_
    have hk9 : k_knot n τ x a = 1 := by unfold k_knot; rw [if_pos hb]
    exact j_ireti C hr E (Nat.le_refl _) (Nat.le_refl _) rfl (upR Z 40 (fun _ => nI (1))) ⟨by rw [hk9]; rfl, fun z => absurd z (by rw [hk9]; decide), fun _ => g_SM_40 hSM _⟩ rfl dX8_knot_85
set_option maxHeartbeats 4000000 in
set_option maxRecDepth 100000 in
theorem c_X8_clear (ll : Launch) (D : va_G) (bd : Nat → Nat) (c : Nat → ClassId) (Z : ZT) (L : LT) {n : Nat} {τ : Tb} {w : List Nat} {st : Int32} {tr : List Nat} (hSM : g_SM n τ w st tr Z) : cV (S := ZT) ll yX8_clear vsX8_clear ({ frames := 0, cells := 0, slots := 0, locals := 0 } : Room) D (tysG c) [.ref (bd 0)] (wm bd c Z L) (fun Z' => wm bd c Z' L) (fun Z' => Z' 40 0 = nI 0 ∧ g_SM 0 τ w st tr Z') 0 0 := by
  refine cV_start (cc := cX8_clear) (maxL := 1) RX8 rfl (by decide +kernel) rfl (Nat.le_of_ble_eq_true rfl) ?_
  intro κ hlκ C hr _ E hR hn
  subst hlκ
  have hL : ∀ w ∈ u_ws RX8 TX8 28, w.before (ja κ) (js κ) = true := fun w h => C.t w (mX8_clear_wsX80 w h)
  have f73 : (Cond.fieldLink RX8 73 "GuardedGrammarModel" (TX8 0).2.1 (TX8 0).2.2.1).before (ja κ) (js κ) = true := C.t (.fieldLink RX8 73 "GuardedGrammarModel" "thrown" "I") (mX8_clear_o _ (by decide +kernel))
  have f76 : (Cond.fieldLink RX8 76 "GuardedGrammarModel" (TX8 1).2.1 (TX8 1).2.2.1).before (ja κ) (js κ) = true := C.t (.fieldLink RX8 76 "GuardedGrammarModel" "terms" "I") (mX8_clear_o _ (by decide +kernel))
  show J D κ 0 0 0 [(0, .ref (bd 0))] [] (wm bd c Z L)
  obtain ⟨hwf, hE, hz, hwd, h43, h44, htr, htl⟩ := id hSM
  refine j_aload_n C 0 0 dX8_clear_0 rfl rfl ?_
  refine j_iconst C 1 (v := nI 0) dX8_clear_1 rfl ?_
  refine j_put C 2 (ci := 8) hL tyX8_ok nmX8 rfl 0 (wm_o0 bd c Z L) 0 (by decide) f73 rfl rfl (tyX8_ok 0 (by decide)) rfl rfl (Nat.le_of_ble_eq_true rfl) (wm_p40 bd c Z L (nI (0))) dX8_clear_2 ?_
  refine j_aload_n C 5 0 dX8_clear_5 rfl rfl ?_
  refine j_iconst C 6 (v := nI 0) dX8_clear_6 rfl ?_
  refine j_put C 7 (ci := 8) hL tyX8_ok nmX8 rfl 0 (wm_o0 bd c (upR Z 40 (fun _ => nI (0))) L) 1 (by decide) f76 rfl rfl (tyX8_ok 1 (by decide)) rfl rfl (Nat.le_of_ble_eq_true rfl) (wm_p41 bd c (upR Z 40 (fun _ => nI (0))) L (nI (0))) dX8_clear_7 ?_
  exact j_vreti C hr E (Nat.le_refl _) (Nat.le_refl _) (upR (upR Z 40 (fun _ => nI (0))) 41 (fun _ => nI (0))) ⟨rfl, ⟨Nat.zero_le _, fun t ht => by omega⟩, fun t ht => by omega, rfl, hwd, h43, h44, htr, htl⟩ rfl dX8_clear_10
set_option maxHeartbeats 4000000 in
set_option maxRecDepth 100000 in
theorem c_X8_terms (ll : Launch) (D : va_G) (bd : Nat → Nat) (c : Nat → ClassId) (Z : ZT) (L : LT) {n : Nat} {τ : Tb} {w : List Nat} {st : Int32} {tr : List Nat} (hSM : g_SM n τ w st tr Z) : cI (S := ZT) ll yX8_terms vsX8_terms ({ frames := 0, cells := 0, slots := 0, locals := 0 } : Room) D (tysG c) [.ref (bd 0)] (wm bd c Z L) (fun Z' => wm bd c Z' L) (fun r Z' => r = nI n ∧ Z' 40 0 = nI 0 ∧ g_SM n τ w st tr Z') 0 0 := by
  refine cI_start (cc := cX8_terms) (maxL := 1) RX8 rfl (by decide +kernel) rfl (Nat.le_of_ble_eq_true rfl) ?_
  intro κ hlκ C hr _ E hR hn
  subst hlκ
  have hL : ∀ w ∈ u_ws RX8 TX8 28, w.before (ja κ) (js κ) = true := fun w h => C.t w (mX8_terms_wsX80 w h)
  have f73 : (Cond.fieldLink RX8 73 "GuardedGrammarModel" (TX8 0).2.1 (TX8 0).2.2.1).before (ja κ) (js κ) = true := C.t (.fieldLink RX8 73 "GuardedGrammarModel" "thrown" "I") (mX8_terms_o _ (by decide +kernel))
  have f76 : (Cond.fieldLink RX8 76 "GuardedGrammarModel" (TX8 1).2.1 (TX8 1).2.2.1).before (ja κ) (js κ) = true := C.t (.fieldLink RX8 76 "GuardedGrammarModel" "terms" "I") (mX8_terms_o _ (by decide +kernel))
  show J D κ 0 0 0 [(0, .ref (bd 0))] [] (wm bd c Z L)
  obtain ⟨hwf, hE, hz, hwd, h43, h44, htr, htl⟩ := id hSM
  refine j_aload_n C 0 0 dX8_terms_0 rfl rfl ?_
  refine j_iconst C 1 (v := nI 0) dX8_terms_1 rfl ?_
  refine j_put C 2 (ci := 8) hL tyX8_ok nmX8 rfl 0 (wm_o0 bd c Z L) 0 (by decide) f73 rfl rfl (tyX8_ok 0 (by decide)) rfl rfl (Nat.le_of_ble_eq_true rfl) (wm_p40 bd c Z L (nI (0))) dX8_terms_2 ?_
  refine j_aload_n C 5 0 dX8_terms_5 rfl rfl ?_
  refine j_get C 6 (ci := 8) hL rfl 0 (wm_o0 bd c (upR Z 40 (fun _ => nI (0))) L) 1 (by decide) f76 rfl (v := .int (Z 41 0)) rfl dX8_terms_6 ?_
  exact j_ireti C hr E (Nat.le_refl _) (Nat.le_refl _) rfl (upR Z 40 (fun _ => nI (0))) ⟨hz, rfl, g_SM_40 hSM _⟩ rfl dX8_terms_9
set_option maxHeartbeats 4000000 in
set_option maxRecDepth 100000 in
theorem c_X8_length (ll : Launch) (D : va_G) (bd : Nat → Nat) (c : Nat → ClassId) (Z : ZT) (L : LT) {n : Nat} {τ : Tb} {w : List Nat} {st : Int32} {tr : List Nat} (hSM : g_SM n τ w st tr Z) : cI (S := ZT) ll yX8_length vsX8_length ({ frames := 0, cells := 0, slots := 0, locals := 0 } : Room) D (tysG c) [.ref (bd 0)] (wm bd c Z L) (fun Z' => wm bd c Z' L) (fun r Z' => r = nI w.length ∧ Z' 40 0 = nI 0 ∧ g_SM n τ w st tr Z') 0 0 := by
  refine cI_start (cc := cX8_length) (maxL := 1) RX8 rfl (by decide +kernel) rfl (Nat.le_of_ble_eq_true rfl) ?_
  intro κ hlκ C hr _ E hR hn
  subst hlκ
  have hL : ∀ w ∈ u_ws RX8 TX8 28, w.before (ja κ) (js κ) = true := fun w h => C.t w (mX8_length_wsX80 w h)
  have f73 : (Cond.fieldLink RX8 73 "GuardedGrammarModel" (TX8 0).2.1 (TX8 0).2.2.1).before (ja κ) (js κ) = true := C.t (.fieldLink RX8 73 "GuardedGrammarModel" "thrown" "I") (mX8_length_o _ (by decide +kernel))
  have f113 : (Cond.fieldLink RX8 113 "GuardedGrammarModel" (TX8 13).2.1 (TX8 13).2.2.1).before (ja κ) (js κ) = true := C.t (.fieldLink RX8 113 "GuardedGrammarModel" "letters" "I") (mX8_length_o _ (by decide +kernel))
  show J D κ 0 0 0 [(0, .ref (bd 0))] [] (wm bd c Z L)
  obtain ⟨hwf, hE, hz, hwd, h43, h44, htr, htl⟩ := id hSM
  refine j_aload_n C 0 0 dX8_length_0 rfl rfl ?_
  refine j_iconst C 1 (v := nI 0) dX8_length_1 rfl ?_
  refine j_put C 2 (ci := 8) hL tyX8_ok nmX8 rfl 0 (wm_o0 bd c Z L) 0 (by decide) f73 rfl rfl (tyX8_ok 0 (by decide)) rfl rfl (Nat.le_of_ble_eq_true rfl) (wm_p40 bd c Z L (nI (0))) dX8_length_2 ?_
  refine j_aload_n C 5 0 dX8_length_5 rfl rfl ?_
  refine j_get C 6 (ci := 8) hL rfl 0 (wm_o0 bd c (upR Z 40 (fun _ => nI (0))) L) 13 (by decide) f113 rfl (v := .int (Z 42 0)) rfl dX8_length_6 ?_
  exact j_ireti C hr E (Nat.le_refl _) (Nat.le_refl _) rfl (upR Z 40 (fun _ => nI (0))) ⟨hwd.2.1, rfl, g_SM_40 hSM _⟩ rfl dX8_length_9
set_option maxHeartbeats 4000000 in
set_option maxRecDepth 100000 in
theorem c_X8_stopped (ll : Launch) (D : va_G) (bd : Nat → Nat) (c : Nat → ClassId) (Z : ZT) (L : LT) {n : Nat} {τ : Tb} {w : List Nat} {st : Int32} {tr : List Nat} (hSM : g_SM n τ w st tr Z) : cI (S := ZT) ll yX8_stopped vsX8_stopped ({ frames := 0, cells := 0, slots := 0, locals := 0 } : Room) D (tysG c) [.ref (bd 0)] (wm bd c Z L) (fun Z' => wm bd c Z' L) (fun r Z' => r = st ∧ Z' 40 0 = nI 0 ∧ g_SM n τ w st tr Z') 0 0 := by
  refine cI_start (cc := cX8_stopped) (maxL := 1) RX8 rfl (by decide +kernel) rfl (Nat.le_of_ble_eq_true rfl) ?_
  intro κ hlκ C hr _ E hR hn
  subst hlκ
  have hL : ∀ w ∈ u_ws RX8 TX8 28, w.before (ja κ) (js κ) = true := fun w h => C.t w (mX8_stopped_wsX80 w h)
  have f73 : (Cond.fieldLink RX8 73 "GuardedGrammarModel" (TX8 0).2.1 (TX8 0).2.2.1).before (ja κ) (js κ) = true := C.t (.fieldLink RX8 73 "GuardedGrammarModel" "thrown" "I") (mX8_stopped_o _ (by decide +kernel))
  have f47 : (Cond.fieldLink RX8 47 "GuardedGrammarModel" (TX8 15).2.1 (TX8 15).2.2.1).before (ja κ) (js κ) = true := C.t (.fieldLink RX8 47 "GuardedGrammarModel" "at" "I") (mX8_stopped_o _ (by decide +kernel))
  show J D κ 0 0 0 [(0, .ref (bd 0))] [] (wm bd c Z L)
  obtain ⟨hwf, hE, hz, hwd, h43, h44, htr, htl⟩ := id hSM
  refine j_aload_n C 0 0 dX8_stopped_0 rfl rfl ?_
  refine j_iconst C 1 (v := nI 0) dX8_stopped_1 rfl ?_
  refine j_put C 2 (ci := 8) hL tyX8_ok nmX8 rfl 0 (wm_o0 bd c Z L) 0 (by decide) f73 rfl rfl (tyX8_ok 0 (by decide)) rfl rfl (Nat.le_of_ble_eq_true rfl) (wm_p40 bd c Z L (nI (0))) dX8_stopped_2 ?_
  refine j_aload_n C 5 0 dX8_stopped_5 rfl rfl ?_
  refine j_get C 6 (ci := 8) hL rfl 0 (wm_o0 bd c (upR Z 40 (fun _ => nI (0))) L) 15 (by decide) f47 rfl (v := .int (Z 43 0)) rfl dX8_stopped_6 ?_
  exact j_ireti C hr E (Nat.le_refl _) (Nat.le_refl _) rfl (upR Z 40 (fun _ => nI (0))) ⟨h43, rfl, g_SM_40 hSM _⟩ rfl dX8_stopped_9
set_option maxHeartbeats 4000000 in
set_option maxRecDepth 100000 in
theorem c_X8_trace (ll : Launch) (D : va_G) (bd : Nat → Nat) (c : Nat → ClassId) (Z : ZT) (L : LT) {n : Nat} {τ : Tb} {w : List Nat} {st : Int32} {tr : List Nat} (hSM : g_SM n τ w st tr Z) : cI (S := ZT) ll yX8_trace vsX8_trace ({ frames := 0, cells := 0, slots := 0, locals := 0 } : Room) D (tysG c) [.ref (bd 0)] (wm bd c Z L) (fun Z' => wm bd c Z' L) (fun r Z' => r = nI tr.length ∧ Z' 40 0 = nI 0 ∧ g_SM n τ w st tr Z') 0 0 := by
  refine cI_start (cc := cX8_trace) (maxL := 1) RX8 rfl (by decide +kernel) rfl (Nat.le_of_ble_eq_true rfl) ?_
  intro κ hlκ C hr _ E hR hn
  subst hlκ
  have hL : ∀ w ∈ u_ws RX8 TX8 28, w.before (ja κ) (js κ) = true := fun w h => C.t w (mX8_trace_wsX80 w h)
  have f73 : (Cond.fieldLink RX8 73 "GuardedGrammarModel" (TX8 0).2.1 (TX8 0).2.2.1).before (ja κ) (js κ) = true := C.t (.fieldLink RX8 73 "GuardedGrammarModel" "thrown" "I") (mX8_trace_o _ (by decide +kernel))
  have f138 : (Cond.fieldLink RX8 138 "GuardedGrammarModel" (TX8 16).2.1 (TX8 16).2.2.1).before (ja κ) (js κ) = true := C.t (.fieldLink RX8 138 "GuardedGrammarModel" "steps" "I") (mX8_trace_o _ (by decide +kernel))
  show J D κ 0 0 0 [(0, .ref (bd 0))] [] (wm bd c Z L)
  obtain ⟨hwf, hE, hz, hwd, h43, h44, htr, htl⟩ := id hSM
  refine j_aload_n C 0 0 dX8_trace_0 rfl rfl ?_
  refine j_iconst C 1 (v := nI 0) dX8_trace_1 rfl ?_
  refine j_put C 2 (ci := 8) hL tyX8_ok nmX8 rfl 0 (wm_o0 bd c Z L) 0 (by decide) f73 rfl rfl (tyX8_ok 0 (by decide)) rfl rfl (Nat.le_of_ble_eq_true rfl) (wm_p40 bd c Z L (nI (0))) dX8_trace_2 ?_
  refine j_aload_n C 5 0 dX8_trace_5 rfl rfl ?_
  refine j_get C 6 (ci := 8) hL rfl 0 (wm_o0 bd c (upR Z 40 (fun _ => nI (0))) L) 16 (by decide) f138 rfl (v := .int (Z 44 0)) rfl dX8_trace_6 ?_
  exact j_ireti C hr E (Nat.le_refl _) (Nat.le_refl _) rfl (upR Z 40 (fun _ => nI (0))) ⟨h44, rfl, g_SM_40 hSM _⟩ rfl dX8_trace_9
set_option maxHeartbeats 4000000 in
set_option maxRecDepth 100000 in
theorem c_X8_put (ll : Launch) (D : va_G) (bd : Nat → Nat) (c : Nat → ClassId) (Z : ZT) (L : LT) {n : Nat} {τ : Tb} {w : List Nat} {st : Int32} {tr : List Nat} (x : Int32) (hSM : g_SM n τ w st tr Z) : cI (S := ZT) ll yX8_put vsX8_put ({ frames := 0, cells := 0, slots := 0, locals := 0 } : Room) D (tysG c) [.ref (bd 0), .int (x)] (wm bd c Z L) (fun Z' => wm bd c Z' L) (fun r Z' => r = b2 (k_put w x) ∧ Z' 40 0 = nI 0 ∧ g_SM n τ (w_put w x) st tr Z') 0 0 := by
  refine cI_start (cc := cX8_put) (maxL := 2) RX8 rfl (by decide +kernel) rfl (Nat.le_of_ble_eq_true rfl) ?_
  intro κ hlκ C hr _ E hR hn
  subst hlκ
  have hL : ∀ w ∈ u_ws RX8 TX8 28, w.before (ja κ) (js κ) = true := fun w h => C.t w (mX8_put_wsX80 w h)
  have f73 : (Cond.fieldLink RX8 73 "GuardedGrammarModel" (TX8 0).2.1 (TX8 0).2.2.1).before (ja κ) (js κ) = true := C.t (.fieldLink RX8 73 "GuardedGrammarModel" "thrown" "I") (mX8_put_o _ (by decide +kernel))
  have f113 : (Cond.fieldLink RX8 113 "GuardedGrammarModel" (TX8 13).2.1 (TX8 13).2.2.1).before (ja κ) (js κ) = true := C.t (.fieldLink RX8 113 "GuardedGrammarModel" "letters" "I") (mX8_put_o _ (by decide +kernel))
  have f44 : (Cond.fieldLink RX8 44 "GuardedGrammarModel" (TX8 14).2.1 (TX8 14).2.2.1).before (ja κ) (js κ) = true := C.t (.fieldLink RX8 44 "GuardedGrammarModel" "word" "[I") (mX8_put_o _ (by decide +kernel))
  show J D κ 0 0 0 [(0, .ref (bd 0)), (1, .int (x))] [] (wm bd c Z L)
  obtain ⟨hwf, hE, hz, hwd, h43, h44, htr, htl⟩ := id hSM
  have hw40 := hwd.1
  refine j_aload_n C 0 0 dX8_put_0 rfl rfl ?_
  refine j_iconst C 1 (v := nI 0) dX8_put_1 rfl ?_
  refine j_put C 2 (ci := 8) hL tyX8_ok nmX8 rfl 0 (wm_o0 bd c Z L) 0 (by decide) f73 rfl rfl (tyX8_ok 0 (by decide)) rfl rfl (Nat.le_of_ble_eq_true rfl) (wm_p40 bd c Z L (nI (0))) dX8_put_2 ?_
  refine j_iload_n C 5 1 dX8_put_5 rfl rfl ?_
  refine j_if_lt C 6 24 dX8_put_6 (by decide) (fun h6 => ?_) (fun h6 => ?_)
  · refine j_iconst C 24 (v := nI 0) dX8_put_24 rfl ?_
    have hk : k_put w x = false := decide_eq_false (fun z => z.1 h6)
    exact j_ireti C hr E (Nat.le_refl _) (Nat.le_refl _) (by decide) (upR Z 40 (fun _ => nI (0))) ⟨by rw [hk]; rfl, rfl, by unfold w_put; rw [hk]; exact g_SM_40 hSM _⟩ rfl dX8_put_25
  · refine j_iload_n C 9 1 dX8_put_9 rfl rfl ?_
    refine j_bipush C 10 (v := nI 7) dX8_put_10 rfl ?_
    refine j_icmp_gt C 12 24 dX8_put_12 (by decide) (fun h12 => ?_) (fun h12 => ?_)
    · refine j_iconst C 24 (v := nI 0) dX8_put_24 rfl ?_
      have hk : k_put w x = false := decide_eq_false (fun z => absurd ((e_le_lt (by decide)).mpr z.2.1) (Int32.not_le.mpr h12))
      exact j_ireti C hr E (Nat.le_refl _) (Nat.le_refl _) (by decide) (upR Z 40 (fun _ => nI (0))) ⟨by rw [hk]; rfl, rfl, by unfold w_put; rw [hk]; exact g_SM_40 hSM _⟩ rfl dX8_put_25
    · refine j_aload_n C 15 0 dX8_put_15 rfl rfl ?_
      refine j_get C 16 (ci := 8) hL rfl 0 (wm_o0 bd c (upR Z 40 (fun _ => nI (0))) L) 13 (by decide) f113 rfl (v := .int (Z 42 0)) rfl dX8_put_16 ?_
      refine j_eqi hwd.2.1 ?_
      refine j_bipush C 19 (v := nI 40) dX8_put_19 rfl ?_
      refine j_icmp_ne_n C 21 26 (by omega) (by omega) dX8_put_21 (by decide) (fun h21 => ?_) (fun h21 => ?_)
      · have h40 : w.length < 40 := by have := hwd.1; omega
        have h8x : x < nI 8 := (e_le_lt (by decide)).mp (Int32.not_lt.mp h12)
        have hk : k_put w x = true := decide_eq_true ⟨h6, h8x, h40⟩
        obtain ⟨t, ht, rfl⟩ := e_in (by decide) h6 h8x
        have hct : cN (nI t) = t := nI_clamp (by omega)
        refine j_aload_n C 26 0 dX8_put_26 rfl rfl ?_
        refine j_get C 27 (ci := 8) hL rfl 0 (wm_o0 bd c (upR Z 40 (fun _ => nI (0))) L) 14 (by decide) f44 rfl (v := .ref (bd 12)) rfl dX8_put_27 ?_
        refine j_aload_n C 30 0 dX8_put_30 rfl rfl ?_
        refine j_get C 31 (ci := 8) hL rfl 0 (wm_o0 bd c (upR Z 40 (fun _ => nI (0))) L) 13 (by decide) f113 rfl (v := .int (Z 42 0)) rfl dX8_put_31 ?_
        refine j_eqi hwd.2.1 ?_
        refine j_iload_n C 34 1 dX8_put_34 rfl rfl ?_
        refine j_iast C 35 12 0 (f := Z 12) (wm_a12 bd c (upR Z 40 (fun _ => nI (0))) L) rfl (by omega) (by decide) (wm_s12 bd c (upR Z 40 (fun _ => nI (0))) L (upd (Z 12) (w.length) (nI (t)))) dX8_put_35 ?_
        refine j_aload_n C 36 0 dX8_put_36 rfl rfl ?_
        refine j_dup C 37 dX8_put_37 rfl ?_
        refine j_get C 38 (ci := 8) hL rfl 0 (wm_o0 bd c (upR (upR Z 40 (fun _ => nI (0))) 12 (upd (Z 12) (w.length) (nI (t)))) L) 13 (by decide) f113 rfl (v := .int (Z 42 0)) rfl dX8_put_38 ?_
        refine j_eqi hwd.2.1 ?_
        refine j_iconst C 41 (v := nI 1) dX8_put_41 rfl ?_
        refine j_iadd_e C 42 dX8_put_42 (nI_add _ _) ?_
        refine j_put C 43 (ci := 8) hL tyX8_ok nmX8 rfl 0 (wm_o0 bd c (upR (upR Z 40 (fun _ => nI (0))) 12 (upd (Z 12) (w.length) (nI (t)))) L) 13 (by decide) f113 rfl rfl (tyX8_ok 13 (by decide)) rfl rfl (Nat.le_of_ble_eq_true rfl) (wm_p42 bd c (upR (upR Z 40 (fun _ => nI (0))) 12 (upd (Z 12) (w.length) (nI (t)))) L (nI (w.length + 1))) dX8_put_43 ?_
        refine j_iconst C 46 (v := nI 1) dX8_put_46 rfl ?_
        exact j_ireti C hr E (Nat.le_refl _) (Nat.le_refl _) (by decide) (upR (upR (upR Z 40 (fun _ => nI (0))) 12 (upd (Z 12) (w.length) (nI (t)))) 42 (fun _ => nI (w.length + 1))) ⟨by rw [hk]; rfl, rfl, by unfold w_put; rw [if_pos hk, hct]; exact g_SM_w (ks := [12, 40, 42]) hSM (g_fr_up (g_fr_up (g_fr_up g_fr_rfl (by decide) _) (by decide) _) (by decide) _) (by decide) (g_WD_add hwd h40 ht)⟩ rfl dX8_put_47
      · refine j_iconst C 24 (v := nI 0) dX8_put_24 rfl ?_
        have hk : k_put w x = false := decide_eq_false (fun z => by have := z.2.2; omega)
        exact j_ireti C hr E (Nat.le_refl _) (Nat.le_refl _) (by decide) (upR Z 40 (fun _ => nI (0))) ⟨by rw [hk]; rfl, rfl, by unfold w_put; rw [hk]; exact g_SM_40 hSM _⟩ rfl dX8_put_25
set_option maxHeartbeats 4000000 in
set_option maxRecDepth 100000 in
theorem c_X8_cut (ll : Launch) (D : va_G) (bd : Nat → Nat) (c : Nat → ClassId) (Z : ZT) (L : LT) {n : Nat} {τ : Tb} {w : List Nat} {st : Int32} {tr : List Nat} (x : Int32) (hSM : g_SM n τ w st tr Z) : cI (S := ZT) ll yX8_cut vsX8_cut ({ frames := 0, cells := 0, slots := 0, locals := 0 } : Room) D (tysG c) [.ref (bd 0), .int (x)] (wm bd c Z L) (fun Z' => wm bd c Z' L) (fun r Z' => r = b2 (k_cut w x) ∧ Z' 40 0 = nI 0 ∧ g_SM n τ (w_cut w x) st tr Z') 0 0 := by
  refine cI_start (cc := cX8_cut) (maxL := 2) RX8 rfl (by decide +kernel) rfl (Nat.le_of_ble_eq_true rfl) ?_
  intro κ hlκ C hr _ E hR hn
  subst hlκ
  have hL : ∀ w ∈ u_ws RX8 TX8 28, w.before (ja κ) (js κ) = true := fun w h => C.t w (mX8_cut_wsX80 w h)
  have f73 : (Cond.fieldLink RX8 73 "GuardedGrammarModel" (TX8 0).2.1 (TX8 0).2.2.1).before (ja κ) (js κ) = true := C.t (.fieldLink RX8 73 "GuardedGrammarModel" "thrown" "I") (mX8_cut_o _ (by decide +kernel))
  have f113 : (Cond.fieldLink RX8 113 "GuardedGrammarModel" (TX8 13).2.1 (TX8 13).2.2.1).before (ja κ) (js κ) = true := C.t (.fieldLink RX8 113 "GuardedGrammarModel" "letters" "I") (mX8_cut_o _ (by decide +kernel))
  show J D κ 0 0 0 [(0, .ref (bd 0)), (1, .int (x))] [] (wm bd c Z L)
  obtain ⟨hwf, hE, hz, hwd, h43, h44, htr, htl⟩ := id hSM
  have hw40 := hwd.1
  refine j_aload_n C 0 0 dX8_cut_0 rfl rfl ?_
  refine j_iconst C 1 (v := nI 0) dX8_cut_1 rfl ?_
  refine j_put C 2 (ci := 8) hL tyX8_ok nmX8 rfl 0 (wm_o0 bd c Z L) 0 (by decide) f73 rfl rfl (tyX8_ok 0 (by decide)) rfl rfl (Nat.le_of_ble_eq_true rfl) (wm_p40 bd c Z L (nI (0))) dX8_cut_2 ?_
  refine j_iload_n C 5 1 dX8_cut_5 rfl rfl ?_
  refine j_if_lt C 6 17 dX8_cut_6 (by decide) (fun h6 => ?_) (fun h6 => ?_)
  · refine j_iconst C 17 (v := nI 0) dX8_cut_17 rfl ?_
    have hk : k_cut w x = false := decide_eq_false (fun z => z.1 h6)
    exact j_ireti C hr E (Nat.le_refl _) (Nat.le_refl _) (by decide) (upR Z 40 (fun _ => nI (0))) ⟨by rw [hk]; rfl, rfl, by unfold w_cut; rw [hk]; exact g_SM_40 hSM _⟩ rfl dX8_cut_18
  · refine j_iload_n C 9 1 dX8_cut_9 rfl rfl ?_
    refine j_aload_n C 10 0 dX8_cut_10 rfl rfl ?_
    refine j_get C 11 (ci := 8) hL rfl 0 (wm_o0 bd c (upR Z 40 (fun _ => nI (0))) L) 13 (by decide) f113 rfl (v := .int (Z 42 0)) rfl dX8_cut_11 ?_
    refine j_eqi hwd.2.1 ?_
    refine j_icmp_le C 14 19 dX8_cut_14 (by decide) (fun h14 => ?_) (fun h14 => ?_)
    · have hk : k_cut w x = true := decide_eq_true ⟨h6, h14⟩
      obtain ⟨t, ht, rfl⟩ := e_in2 (by omega) h6 h14
      have hct : cN (nI t) = t := nI_clamp (by omega)
      refine j_aload_n C 19 0 dX8_cut_19 rfl rfl ?_
      refine j_iload_n C 20 1 dX8_cut_20 rfl rfl ?_
      refine j_put C 21 (ci := 8) hL tyX8_ok nmX8 rfl 0 (wm_o0 bd c (upR Z 40 (fun _ => nI (0))) L) 13 (by decide) f113 rfl rfl (tyX8_ok 13 (by decide)) rfl rfl (Nat.le_of_ble_eq_true rfl) (wm_p42 bd c (upR Z 40 (fun _ => nI (0))) L (nI (t))) dX8_cut_21 ?_
      refine j_iconst C 24 (v := nI 1) dX8_cut_24 rfl ?_
      exact j_ireti C hr E (Nat.le_refl _) (Nat.le_refl _) (by decide) (upR (upR Z 40 (fun _ => nI (0))) 42 (fun _ => nI (t))) ⟨by rw [hk]; rfl, rfl, by unfold w_cut; rw [if_pos hk, hct]; exact g_SM_w (ks := [40, 42]) hSM (g_fr_up (g_fr_up g_fr_rfl (by decide) _) (by decide) _) (by decide) (g_WD_take hwd t ht)⟩ rfl dX8_cut_25
    · refine j_iconst C 17 (v := nI 0) dX8_cut_17 rfl ?_
      have hk : k_cut w x = false := decide_eq_false (fun z => h14 z.2)
      exact j_ireti C hr E (Nat.le_refl _) (Nat.le_refl _) (by decide) (upR Z 40 (fun _ => nI (0))) ⟨by rw [hk]; rfl, rfl, by unfold w_cut; rw [hk]; exact g_SM_40 hSM _⟩ rfl dX8_cut_18
set_option maxHeartbeats 4000000 in
set_option maxRecDepth 100000 in
theorem c_X8_letter (ll : Launch) (D : va_G) (bd : Nat → Nat) (c : Nat → ClassId) (Z : ZT) (L : LT) {n : Nat} {τ : Tb} {w : List Nat} {st : Int32} {tr : List Nat} (x : Int32) (hSM : g_SM n τ w st tr Z) : cI (S := ZT) ll yX8_letter vsX8_letter ({ frames := 0, cells := 0, slots := 0, locals := 0 } : Room) D (tysG c) [.ref (bd 0), .int (x)] (wm bd c Z L) (fun Z' => wm bd c Z' L) (fun r Z' => Z' 40 0 = nI (k_ix w.length x) ∧ (k_ix w.length x = 0 → r = nI (g_nx w (cN x)) ∧ g_SM n τ w st tr Z') ∧ (k_ix w.length x ≠ 0 → g_SM n τ w st tr Z')) 0 0 := by
  refine cI_start (cc := cX8_letter) (maxL := 2) RX8 rfl (by decide +kernel) rfl (Nat.le_of_ble_eq_true rfl) ?_
  intro κ hlκ C hr _ E hR hn
  subst hlκ
  have hL : ∀ w ∈ u_ws RX8 TX8 28, w.before (ja κ) (js κ) = true := fun w h => C.t w (mX8_letter_wsX80 w h)
  have f113 : (Cond.fieldLink RX8 113 "GuardedGrammarModel" (TX8 13).2.1 (TX8 13).2.2.1).before (ja κ) (js κ) = true := C.t (.fieldLink RX8 113 "GuardedGrammarModel" "letters" "I") (mX8_letter_o _ (by decide +kernel))
  have f73 : (Cond.fieldLink RX8 73 "GuardedGrammarModel" (TX8 0).2.1 (TX8 0).2.2.1).before (ja κ) (js κ) = true := C.t (.fieldLink RX8 73 "GuardedGrammarModel" "thrown" "I") (mX8_letter_o _ (by decide +kernel))
  have f44 : (Cond.fieldLink RX8 44 "GuardedGrammarModel" (TX8 14).2.1 (TX8 14).2.2.1).before (ja κ) (js κ) = true := C.t (.fieldLink RX8 44 "GuardedGrammarModel" "word" "[I") (mX8_letter_o _ (by decide +kernel))
  show J D κ 0 0 0 [(0, .ref (bd 0)), (1, .int (x))] [] (wm bd c Z L)
  obtain ⟨hwf, hE, hz, hwd, h43, h44, htr, htl⟩ := id hSM
  have hw40 := hwd.1
  refine j_aload_n C 0 0 dX8_letter_0 rfl rfl ?_
  refine j_iload_n C 1 1 dX8_letter_1 rfl rfl ?_
  refine j_if_lt C 2 13 dX8_letter_2 (by decide) (fun h2 => ?_) (fun h2 => ?_)
  · refine j_iconst C 13 (v := nI 1) dX8_letter_13 rfl ?_
    refine j_goto C 14 18 dX8_letter_14 (by decide) ?_
    refine j_put C 18 (ci := 8) hL tyX8_ok nmX8 rfl 0 (wm_o0 bd c Z L) 0 (by decide) f73 rfl rfl (tyX8_ok 0 (by decide)) rfl rfl (Nat.le_of_ble_eq_true rfl) (wm_p40 bd c Z L (nI (1))) dX8_letter_18 ?_
    refine j_aload_n C 21 0 dX8_letter_21 rfl rfl ?_
    refine j_get C 22 (ci := 8) hL rfl 0 (wm_o0 bd c (upR Z 40 (fun _ => nI (1))) L) 0 (by decide) f73 rfl (v := .int (nI (1))) rfl dX8_letter_22 ?_
    refine j_if_le_n C 25 32 (by omega) dX8_letter_25 (by decide) (fun h => absurd h (by omega)) (fun _ => ?_)
    refine j_iconst C 28 (v := nI 0) dX8_letter_28 rfl ?_
    refine j_goto C 29 38 dX8_letter_29 (by decide) ?_
    have hk9 : k_ix w.length x = 1 := by unfold k_ix; rw [if_pos (Or.inl h2)]
    exact j_ireti C hr E (Nat.le_refl _) (Nat.le_refl _) rfl (upR Z 40 (fun _ => nI (1))) ⟨by rw [hk9]; rfl, fun z => absurd z (by rw [hk9]; decide), fun _ => g_SM_40 hSM _⟩ rfl dX8_letter_38
  · refine j_iload_n C 5 1 dX8_letter_5 rfl rfl ?_
    refine j_aload_n C 6 0 dX8_letter_6 rfl rfl ?_
    refine j_get C 7 (ci := 8) hL rfl 0 (wm_o0 bd c Z L) 13 (by decide) f113 rfl (v := .int (Z 42 0)) rfl dX8_letter_7 ?_
    refine j_eqi hwd.2.1 ?_
    refine j_icmp_lt C 10 17 dX8_letter_10 (by decide) (fun h10 => ?_) (fun h10 => ?_)
    · have hk8 : k_ix w.length x = 0 := by unfold k_ix; rw [if_neg (fun z => z.elim h2 (fun z => z h10))]
      obtain ⟨t, ht, rfl⟩ := e_in (by omega) h2 h10
      have hct : cN (nI t) = t := nI_clamp (by omega)
      refine j_iconst C 17 (v := nI 0) dX8_letter_17 rfl ?_
      refine j_put C 18 (ci := 8) hL tyX8_ok nmX8 rfl 0 (wm_o0 bd c Z L) 0 (by decide) f73 rfl rfl (tyX8_ok 0 (by decide)) rfl rfl (Nat.le_of_ble_eq_true rfl) (wm_p40 bd c Z L (nI (0))) dX8_letter_18 ?_
      refine j_aload_n C 21 0 dX8_letter_21 rfl rfl ?_
      refine j_get C 22 (ci := 8) hL rfl 0 (wm_o0 bd c (upR Z 40 (fun _ => nI (0))) L) 0 (by decide) f73 rfl (v := .int (nI (0))) rfl dX8_letter_22 ?_
      refine j_if_le_n C 25 32 (by omega) dX8_letter_25 (by decide) (fun _ => ?_) (fun h => absurd h (by omega))
      refine j_aload_n C 32 0 dX8_letter_32 rfl rfl ?_
      refine j_get C 33 (ci := 8) hL rfl 0 (wm_o0 bd c (upR Z 40 (fun _ => nI (0))) L) 14 (by decide) f44 rfl (v := .ref (bd 12)) rfl dX8_letter_33 ?_
      refine j_iload_n C 36 1 dX8_letter_36 rfl rfl ?_
      refine j_iald C 37 12 0 (f := Z 12) (wm_a12 bd c (upR Z 40 (fun _ => nI (0))) L) rfl (by omega) (by decide) dX8_letter_37 ?_
      refine j_eqi (g_WD_at hwd ht).1 ?_
      have hk9 : k_ix w.length (nI t) = 0 := by exact hk8
      exact j_ireti C hr E (Nat.le_refl _) (Nat.le_refl _) rfl (upR Z 40 (fun _ => nI (0))) ⟨by rw [hk9]; exact rfl, fun _ => ⟨by rw [hct], g_SM_40 hSM _⟩, fun z => absurd hk9 z⟩ rfl dX8_letter_38
    · refine j_iconst C 13 (v := nI 1) dX8_letter_13 rfl ?_
      refine j_goto C 14 18 dX8_letter_14 (by decide) ?_
      refine j_put C 18 (ci := 8) hL tyX8_ok nmX8 rfl 0 (wm_o0 bd c Z L) 0 (by decide) f73 rfl rfl (tyX8_ok 0 (by decide)) rfl rfl (Nat.le_of_ble_eq_true rfl) (wm_p40 bd c Z L (nI (1))) dX8_letter_18 ?_
      refine j_aload_n C 21 0 dX8_letter_21 rfl rfl ?_
      refine j_get C 22 (ci := 8) hL rfl 0 (wm_o0 bd c (upR Z 40 (fun _ => nI (1))) L) 0 (by decide) f73 rfl (v := .int (nI (1))) rfl dX8_letter_22 ?_
      refine j_if_le_n C 25 32 (by omega) dX8_letter_25 (by decide) (fun h => absurd h (by omega)) (fun _ => ?_)
      refine j_iconst C 28 (v := nI 0) dX8_letter_28 rfl ?_
      refine j_goto C 29 38 dX8_letter_29 (by decide) ?_
      have hk9 : k_ix w.length x = 1 := by unfold k_ix; rw [if_pos (Or.inr h10)]
      exact j_ireti C hr E (Nat.le_refl _) (Nat.le_refl _) rfl (upR Z 40 (fun _ => nI (1))) ⟨by rw [hk9]; rfl, fun z => absurd z (by rw [hk9]; decide), fun _ => g_SM_40 hSM _⟩ rfl dX8_letter_38
set_option maxHeartbeats 4000000 in
set_option maxRecDepth 100000 in
theorem c_X8_step (ll : Launch) (D : va_G) (bd : Nat → Nat) (c : Nat → ClassId) (Z : ZT) (L : LT) {n : Nat} {τ : Tb} {w : List Nat} {st : Int32} {tr : List Nat} (x : Int32) (hSM : g_SM n τ w st tr Z) : cI (S := ZT) ll yX8_step vsX8_step ({ frames := 0, cells := 0, slots := 0, locals := 0 } : Room) D (tysG c) [.ref (bd 0), .int (x)] (wm bd c Z L) (fun Z' => wm bd c Z' L) (fun r Z' => Z' 40 0 = nI (k_ix tr.length x) ∧ (k_ix tr.length x = 0 → r = nI (tr.getD (cN x) 0) ∧ g_SM n τ w st tr Z') ∧ (k_ix tr.length x ≠ 0 → g_SM n τ w st tr Z')) 0 0 := by
  refine cI_start (cc := cX8_step) (maxL := 2) RX8 rfl (by decide +kernel) rfl (Nat.le_of_ble_eq_true rfl) ?_
  intro κ hlκ C hr _ E hR hn
  subst hlκ
  have hL : ∀ w ∈ u_ws RX8 TX8 28, w.before (ja κ) (js κ) = true := fun w h => C.t w (mX8_step_wsX80 w h)
  have f138 : (Cond.fieldLink RX8 138 "GuardedGrammarModel" (TX8 16).2.1 (TX8 16).2.2.1).before (ja κ) (js κ) = true := C.t (.fieldLink RX8 138 "GuardedGrammarModel" "steps" "I") (mX8_step_o _ (by decide +kernel))
  have f73 : (Cond.fieldLink RX8 73 "GuardedGrammarModel" (TX8 0).2.1 (TX8 0).2.2.1).before (ja κ) (js κ) = true := C.t (.fieldLink RX8 73 "GuardedGrammarModel" "thrown" "I") (mX8_step_o _ (by decide +kernel))
  have f51 : (Cond.fieldLink RX8 51 "GuardedGrammarModel" (TX8 17).2.1 (TX8 17).2.2.1).before (ja κ) (js κ) = true := C.t (.fieldLink RX8 51 "GuardedGrammarModel" "trace" "[I") (mX8_step_o _ (by decide +kernel))
  show J D κ 0 0 0 [(0, .ref (bd 0)), (1, .int (x))] [] (wm bd c Z L)
  obtain ⟨hwf, hE, hz, hwd, h43, h44, htr, htl⟩ := id hSM
  have hw40 := hwd.1
  refine j_aload_n C 0 0 dX8_step_0 rfl rfl ?_
  refine j_iload_n C 1 1 dX8_step_1 rfl rfl ?_
  refine j_if_lt C 2 13 dX8_step_2 (by decide) (fun h2 => ?_) (fun h2 => ?_)
  · refine j_iconst C 13 (v := nI 1) dX8_step_13 rfl ?_
    refine j_goto C 14 18 dX8_step_14 (by decide) ?_
    refine j_put C 18 (ci := 8) hL tyX8_ok nmX8 rfl 0 (wm_o0 bd c Z L) 0 (by decide) f73 rfl rfl (tyX8_ok 0 (by decide)) rfl rfl (Nat.le_of_ble_eq_true rfl) (wm_p40 bd c Z L (nI (1))) dX8_step_18 ?_
    refine j_aload_n C 21 0 dX8_step_21 rfl rfl ?_
    refine j_get C 22 (ci := 8) hL rfl 0 (wm_o0 bd c (upR Z 40 (fun _ => nI (1))) L) 0 (by decide) f73 rfl (v := .int (nI (1))) rfl dX8_step_22 ?_
    refine j_if_le_n C 25 32 (by omega) dX8_step_25 (by decide) (fun h => absurd h (by omega)) (fun _ => ?_)
    refine j_iconst C 28 (v := nI 0) dX8_step_28 rfl ?_
    refine j_goto C 29 38 dX8_step_29 (by decide) ?_
    have hk9 : k_ix tr.length x = 1 := by unfold k_ix; rw [if_pos (Or.inl h2)]
    exact j_ireti C hr E (Nat.le_refl _) (Nat.le_refl _) rfl (upR Z 40 (fun _ => nI (1))) ⟨by rw [hk9]; rfl, fun z => absurd z (by rw [hk9]; decide), fun _ => g_SM_40 hSM _⟩ rfl dX8_step_38
  · refine j_iload_n C 5 1 dX8_step_5 rfl rfl ?_
    refine j_aload_n C 6 0 dX8_step_6 rfl rfl ?_
    refine j_get C 7 (ci := 8) hL rfl 0 (wm_o0 bd c Z L) 16 (by decide) f138 rfl (v := .int (Z 44 0)) rfl dX8_step_7 ?_
    refine j_eqi h44 ?_
    refine j_icmp_lt C 10 17 dX8_step_10 (by decide) (fun h10 => ?_) (fun h10 => ?_)
    · have hk8 : k_ix tr.length x = 0 := by unfold k_ix; rw [if_neg (fun z => z.elim h2 (fun z => z h10))]
      obtain ⟨t, ht, rfl⟩ := e_in (by omega) h2 h10
      have hct : cN (nI t) = t := nI_clamp (by omega)
      refine j_iconst C 17 (v := nI 0) dX8_step_17 rfl ?_
      refine j_put C 18 (ci := 8) hL tyX8_ok nmX8 rfl 0 (wm_o0 bd c Z L) 0 (by decide) f73 rfl rfl (tyX8_ok 0 (by decide)) rfl rfl (Nat.le_of_ble_eq_true rfl) (wm_p40 bd c Z L (nI (0))) dX8_step_18 ?_
      refine j_aload_n C 21 0 dX8_step_21 rfl rfl ?_
      refine j_get C 22 (ci := 8) hL rfl 0 (wm_o0 bd c (upR Z 40 (fun _ => nI (0))) L) 0 (by decide) f73 rfl (v := .int (nI (0))) rfl dX8_step_22 ?_
      refine j_if_le_n C 25 32 (by omega) dX8_step_25 (by decide) (fun _ => ?_) (fun h => absurd h (by omega))
      refine j_aload_n C 32 0 dX8_step_32 rfl rfl ?_
      refine j_get C 33 (ci := 8) hL rfl 0 (wm_o0 bd c (upR Z 40 (fun _ => nI (0))) L) 17 (by decide) f51 rfl (v := .ref (bd 13)) rfl dX8_step_33 ?_
      refine j_iload_n C 36 1 dX8_step_36 rfl rfl ?_
      refine j_iald C 37 13 0 (f := Z 13) (wm_a13 bd c (upR Z 40 (fun _ => nI (0))) L) rfl (by omega) (by decide) dX8_step_37 ?_
      refine j_eqi (g_tr_at htr ht) ?_
      have hk9 : k_ix tr.length (nI t) = 0 := by exact hk8
      exact j_ireti C hr E (Nat.le_refl _) (Nat.le_refl _) rfl (upR Z 40 (fun _ => nI (0))) ⟨by rw [hk9]; exact rfl, fun _ => ⟨by rw [hct], g_SM_40 hSM _⟩, fun z => absurd hk9 z⟩ rfl dX8_step_38
    · refine j_iconst C 13 (v := nI 1) dX8_step_13 rfl ?_
      refine j_goto C 14 18 dX8_step_14 (by decide) ?_
      refine j_put C 18 (ci := 8) hL tyX8_ok nmX8 rfl 0 (wm_o0 bd c Z L) 0 (by decide) f73 rfl rfl (tyX8_ok 0 (by decide)) rfl rfl (Nat.le_of_ble_eq_true rfl) (wm_p40 bd c Z L (nI (1))) dX8_step_18 ?_
      refine j_aload_n C 21 0 dX8_step_21 rfl rfl ?_
      refine j_get C 22 (ci := 8) hL rfl 0 (wm_o0 bd c (upR Z 40 (fun _ => nI (1))) L) 0 (by decide) f73 rfl (v := .int (nI (1))) rfl dX8_step_22 ?_
      refine j_if_le_n C 25 32 (by omega) dX8_step_25 (by decide) (fun h => absurd h (by omega)) (fun _ => ?_)
      refine j_iconst C 28 (v := nI 0) dX8_step_28 rfl ?_
      refine j_goto C 29 38 dX8_step_29 (by decide) ?_
      have hk9 : k_ix tr.length x = 1 := by unfold k_ix; rw [if_pos (Or.inr h10)]
      exact j_ireti C hr E (Nat.le_refl _) (Nat.le_refl _) rfl (upR Z 40 (fun _ => nI (1))) ⟨by rw [hk9]; rfl, fun z => absurd z (by rw [hk9]; decide), fun _ => g_SM_40 hSM _⟩ rfl dX8_step_38
set_option maxHeartbeats 4000000 in
set_option maxRecDepth 100000 in
theorem c_X8_fault (ll : Launch) (D : va_G) (bd : Nat → Nat) (c : Nat → ClassId) (Z : ZT) (L : LT) {n : Nat} {τ : Tb} {w : List Nat} {st : Int32} {tr : List Nat} (x : Int32) (hSM : g_SM n τ w st tr Z) : cI (S := ZT) ll yX8_fault vsX8_fault ({ frames := 3, cells := 0, slots := 0, locals := 73 } : Room) D (tysG c) [.ref (bd 0), .int (x)] (wm bd c Z L) (fun Z' => wm bd c Z' L) (fun r Z' => Z' 40 0 = nI (k_fault n x) ∧ (k_fault n x = 0 → r = nI (g_fo τ (cN x)) ∧ g_SM n τ w st tr Z') ∧ (k_fault n x ≠ 0 → g_SM n τ w st tr Z')) 0 0 := by
  refine cI_start (cc := cX8_fault) (maxL := 2) RX8 rfl (by decide +kernel) rfl (Nat.le_of_ble_eq_true rfl) ?_
  intro κ hlκ C hr _ E hR hn
  subst hlκ
  have hL : ∀ w ∈ u_ws RX8 TX8 28, w.before (ja κ) (js κ) = true := fun w h => C.t w (mX8_fault_wsX80 w h)
  have f73 : (Cond.fieldLink RX8 73 "GuardedGrammarModel" (TX8 0).2.1 (TX8 0).2.2.1).before (ja κ) (js κ) = true := C.t (.fieldLink RX8 73 "GuardedGrammarModel" "thrown" "I") (mX8_fault_o _ (by decide +kernel))
  show J D κ 0 0 0 [(0, .ref (bd 0)), (1, .int (x))] [] (wm bd c Z L)
  obtain ⟨hwf, hE, hz, hwd, h43, h44, htr, htl⟩ := id hSM
  have ht48 := hwf.1
  by_cases hb : bT n x
  · obtain ⟨t, htn, rfl⟩ := (bT_iff hwf.1).mp hb
    have hct : cN (nI t) = t := nI_clamp (by have := hwf.1; omega)
    refine j_aload_n C 0 0 dX8_fault_0 rfl rfl ?_
    refine j_aload_n C 1 0 dX8_fault_1 rfl rfl ?_
    refine j_iload_n C 2 1 dX8_fault_2 rfl rfl ?_
    refine j_callI (mc := 0) (ms := 0) C 3 (c_X8_isTerm (jl κ) D bd c Z L n (nI (t)) hz) gX8_fault_X8_isTerm rfl rfl rfl hd_X8_isTerm (by rw [hR]; exact ⟨Nat.le_of_ble_eq_true rfl, Nat.le_of_ble_eq_true rfl⟩) (ci := 8) rfl 0 (wm_o0 bd c Z L) rfl (Nat.le_of_ble_eq_true rfl) ⟨Nat.zero_le _, Nat.zero_le _⟩ dX8_fault_3 (fun r3 _ e3 => ?_)
    refine j_eqi (y := b2 true) (e3.trans (by rw [decide_eq_true hb])) ?_
    refine j_if_eq_b C 6 (b := true) 13 dX8_fault_6 (by decide) (fun h => by cases h) (fun _ => ?_)
    refine j_iconst C 9 (v := nI 0) dX8_fault_9 rfl ?_
    refine j_goto C 10 14 dX8_fault_10 (by decide) ?_
    refine j_put C 14 (ci := 8) hL tyX8_ok nmX8 rfl 0 (wm_o0 bd c Z L) 0 (by decide) f73 rfl rfl (tyX8_ok 0 (by decide)) rfl rfl (Nat.le_of_ble_eq_true rfl) (wm_p40 bd c Z L (nI (0))) dX8_fault_14 ?_
    refine j_aload_n C 17 0 dX8_fault_17 rfl rfl ?_
    refine j_get C 18 (ci := 8) hL rfl 0 (wm_o0 bd c (upR Z 40 (fun _ => nI (0))) L) 0 (by decide) f73 rfl (v := .int (nI (0))) rfl dX8_fault_18 ?_
    refine j_if_le_n C 21 28 (by omega) dX8_fault_21 (by decide) (fun _ => ?_) (fun h => absurd h (by omega))
    refine j_aload_n C 28 0 dX8_fault_28 rfl rfl ?_
    refine j_iload_n C 29 1 dX8_fault_29 rfl rfl ?_
    refine j_callI (mc := 0) (ms := 0) C 30 (c_X8_faultOf (jl κ) D bd c (upR Z 40 (fun _ => nI (0))) L t hwf htn hE hz) gX8_fault_X8_faultOf rfl rfl rfl hd_X8_faultOf (by rw [hR]; exact ⟨Nat.le_of_ble_eq_true rfl, Nat.le_of_ble_eq_true rfl⟩) (ci := 8) rfl 0 (wm_o0 bd c (upR Z 40 (fun _ => nI (0))) L) rfl (Nat.le_of_ble_eq_true rfl) ⟨Nat.zero_le _, Nat.zero_le _⟩ dX8_fault_30 (fun r9 Z9 q9 => ?_)
    obtain ⟨e9, ⟨hLF9, hY9, hB9, hI9⟩, hfr9⟩ := q9
    refine j_eqi (y := nI (g_fo τ t)) (e9.trans (by first | rw [hfo] | rfl)) ?_
    have hk9 : k_fault n (nI t) = 0 := by unfold k_fault; rw [if_pos hb]
    exact j_ireti C hr E (Nat.le_refl _) (Nat.le_refl _) rfl Z9 ⟨by rw [hk9]; exact (congrFun (hfr9 40 (by decide)) 0), fun _ => ⟨by rw [hct], g_SM_fr (g_SM_40 hSM _) hfr9 (by decide)⟩, fun z => absurd hk9 z⟩ rfl dX8_fault_33
  · refine j_aload_n C 0 0 dX8_fault_0 rfl rfl ?_
    refine j_aload_n C 1 0 dX8_fault_1 rfl rfl ?_
    refine j_iload_n C 2 1 dX8_fault_2 rfl rfl ?_
    refine j_callI (mc := 0) (ms := 0) C 3 (c_X8_isTerm (jl κ) D bd c Z L n (x) hz) gX8_fault_X8_isTerm rfl rfl rfl hd_X8_isTerm (by rw [hR]; exact ⟨Nat.le_of_ble_eq_true rfl, Nat.le_of_ble_eq_true rfl⟩) (ci := 8) rfl 0 (wm_o0 bd c Z L) rfl (Nat.le_of_ble_eq_true rfl) ⟨Nat.zero_le _, Nat.zero_le _⟩ dX8_fault_3 (fun r3 _ e3 => ?_)
    refine j_eqi (y := b2 false) (e3.trans (by rw [decide_eq_false hb])) ?_
    refine j_if_eq_b C 6 (b := false) 13 dX8_fault_6 (by decide) (fun _ => ?_) (fun h => by cases h)
    refine j_iconst C 13 (v := nI 1) dX8_fault_13 rfl ?_
    refine j_put C 14 (ci := 8) hL tyX8_ok nmX8 rfl 0 (wm_o0 bd c Z L) 0 (by decide) f73 rfl rfl (tyX8_ok 0 (by decide)) rfl rfl (Nat.le_of_ble_eq_true rfl) (wm_p40 bd c Z L (nI (1))) dX8_fault_14 ?_
    refine j_aload_n C 17 0 dX8_fault_17 rfl rfl ?_
    refine j_get C 18 (ci := 8) hL rfl 0 (wm_o0 bd c (upR Z 40 (fun _ => nI (1))) L) 0 (by decide) f73 rfl (v := .int (nI (1))) rfl dX8_fault_18 ?_
    refine j_if_le_n C 21 28 (by omega) dX8_fault_21 (by decide) (fun h => absurd h (by omega)) (fun _ => ?_)
    refine j_iconst C 24 (v := nI 0) dX8_fault_24 rfl ?_
    refine j_goto C 25 33 dX8_fault_25 (by decide) ?_
    have hk9 : k_fault n x = 1 := by unfold k_fault; rw [if_neg hb]
    exact j_ireti C hr E (Nat.le_refl _) (Nat.le_refl _) rfl (upR Z 40 (fun _ => nI (1))) ⟨by rw [hk9]; rfl, fun z => absurd z (by rw [hk9]; decide), fun _ => g_SM_40 hSM _⟩ rfl dX8_fault_33
set_option maxHeartbeats 4000000 in
set_option maxRecDepth 100000 in
theorem c_X8_type (ll : Launch) (D : va_G) (bd : Nat → Nat) (c : Nat → ClassId) (Z : ZT) (L : LT) {n : Nat} {τ : Tb} {w : List Nat} {st : Int32} {tr : List Nat} (x y : Int32) (hSM : g_SM n τ w st tr Z) : cI (S := ZT) ll yX8_type vsX8_type ({ frames := 3, cells := 0, slots := 0, locals := 73 } : Room) D (tysG c) [.ref (bd 0), .int (x), .int (y)] (wm bd c Z L) (fun Z' => wm bd c Z' L) (fun r Z' => Z' 40 0 = nI (k_type n τ x y) ∧ (k_type n τ x y = 0 → r = v_type τ x y ∧ g_SM n τ w st tr Z') ∧ (k_type n τ x y ≠ 0 → g_SM n τ w st tr Z')) 0 0 := by
  refine cI_start (cc := cX8_type) (maxL := 3) RX8 rfl (by decide +kernel) rfl (Nat.le_of_ble_eq_true rfl) ?_
  intro κ hlκ C hr _ E hR hn
  subst hlκ
  have hL : ∀ w ∈ u_ws RX8 TX8 28, w.before (ja κ) (js κ) = true := fun w h => C.t w (mX8_type_wsX80 w h)
  have f73 : (Cond.fieldLink RX8 73 "GuardedGrammarModel" (TX8 0).2.1 (TX8 0).2.2.1).before (ja κ) (js κ) = true := C.t (.fieldLink RX8 73 "GuardedGrammarModel" "thrown" "I") (mX8_type_o _ (by decide +kernel))
  have f32 : (Cond.fieldLink RX8 32 "GuardedGrammarModel" (TX8 9).2.1 (TX8 9).2.2.1).before (ja κ) (js κ) = true := C.t (.fieldLink RX8 32 "GuardedGrammarModel" "first" "[I") (mX8_type_o _ (by decide +kernel))
  have f35 : (Cond.fieldLink RX8 35 "GuardedGrammarModel" (TX8 10).2.1 (TX8 10).2.2.1).before (ja κ) (js κ) = true := C.t (.fieldLink RX8 35 "GuardedGrammarModel" "after" "[I") (mX8_type_o _ (by decide +kernel))
  have f28 : (Cond.fieldLink RX8 28 "GuardedGrammarModel" (TX8 8).2.1 (TX8 8).2.2.1).before (ja κ) (js κ) = true := C.t (.fieldLink RX8 28 "GuardedGrammarModel" "nullable" "[Z") (mX8_type_o _ (by decide +kernel))
  show J D κ 0 0 0 [(0, .ref (bd 0)), (1, .int (x)), (2, .int (y))] [] (wm bd c Z L)
  obtain ⟨hwf, hE, hz, hwd, h43, h44, htr, htl⟩ := id hSM
  have ht48 := hwf.1
  by_cases hb : bT n x
  · obtain ⟨t, htn, rfl⟩ := (bT_iff hwf.1).mp hb
    have hct : cN (nI t) = t := nI_clamp (by have := hwf.1; omega)
    have hf400 := g_fo_400 hwf htn
    by_cases hfo : g_fo τ t = 0
    · refine j_aload_n C 0 0 dX8_type_0 rfl rfl ?_
      refine j_aload_n C 1 0 dX8_type_1 rfl rfl ?_
      refine j_iload_n C 2 1 dX8_type_2 rfl rfl ?_
      refine j_callI (mc := 0) (ms := 0) C 3 (c_X8_isTerm (jl κ) D bd c Z L n (nI (t)) hz) gX8_type_X8_isTerm rfl rfl rfl hd_X8_isTerm (by rw [hR]; exact ⟨Nat.le_of_ble_eq_true rfl, Nat.le_of_ble_eq_true rfl⟩) (ci := 8) rfl 0 (wm_o0 bd c Z L) rfl (Nat.le_of_ble_eq_true rfl) ⟨Nat.zero_le _, Nat.zero_le _⟩ dX8_type_3 (fun r3 _ e3 => ?_)
      refine j_eqi (y := b2 true) (e3.trans (by rw [decide_eq_true hb])) ?_
      refine j_if_eq_b C 6 (b := true) 18 dX8_type_6 (by decide) (fun h => by cases h) (fun _ => ?_)
      refine j_iload_n C 9 2 dX8_type_9 rfl rfl ?_
      refine j_if_lt C 10 18 dX8_type_10 (by decide) (fun h10 => ?_) (fun h10 => ?_)
      · refine j_iconst C 18 (v := nI 1) dX8_type_18 rfl ?_
        refine j_goto C 19 35 dX8_type_19 (by decide) ?_
        refine j_put C 35 (ci := 8) hL tyX8_ok nmX8 rfl 0 (wm_o0 bd c Z L) 0 (by decide) f73 rfl rfl (tyX8_ok 0 (by decide)) rfl rfl (Nat.le_of_ble_eq_true rfl) (wm_p40 bd c Z L (nI (1))) dX8_type_35 ?_
        refine j_aload_n C 38 0 dX8_type_38 rfl rfl ?_
        refine j_get C 39 (ci := 8) hL rfl 0 (wm_o0 bd c (upR Z 40 (fun _ => nI (1))) L) 0 (by decide) f73 rfl (v := .int (nI (1))) rfl dX8_type_39 ?_
        refine j_if_le_n C 42 47 (by omega) dX8_type_42 (by decide) (fun h => absurd h (by omega)) (fun _ => ?_)
        refine j_iconst C 45 (v := nI 0) dX8_type_45 rfl ?_
        have hk9 : k_type n τ (nI t) y = 1 := by unfold k_type; rw [if_pos (Or.inr (Or.inl h10))]
        exact j_ireti C hr E (Nat.le_refl _) (Nat.le_refl _) rfl (upR Z 40 (fun _ => nI (1))) ⟨by rw [hk9]; rfl, fun z => absurd z (by rw [hk9]; decide), fun _ => g_SM_40 hSM _⟩ rfl dX8_type_46
      · refine j_iload_n C 13 2 dX8_type_13 rfl rfl ?_
        refine j_iconst C 14 (v := nI 2) dX8_type_14 rfl ?_
        refine j_icmp_le C 15 22 dX8_type_15 (by decide) (fun h15 => ?_) (fun h15 => ?_)
        · refine j_aload_n C 22 0 dX8_type_22 rfl rfl ?_
          refine j_iload_n C 23 1 dX8_type_23 rfl rfl ?_
          refine j_callI (mc := 0) (ms := 0) C 24 (c_X8_faultOf (jl κ) D bd c Z L t hwf htn hE hz) gX8_type_X8_faultOf rfl rfl rfl hd_X8_faultOf (by rw [hR]; exact ⟨Nat.le_of_ble_eq_true rfl, Nat.le_of_ble_eq_true rfl⟩) (ci := 8) rfl 0 (wm_o0 bd c Z L) rfl (Nat.le_of_ble_eq_true rfl) ⟨Nat.zero_le _, Nat.zero_le _⟩ dX8_type_24 (fun r9 Z9 q9 => ?_)
          obtain ⟨e9, ⟨hLF9, hY9, hB9, hI9⟩, hfr9⟩ := q9
          refine j_eqi (y := nI (0)) (e9.trans (by first | rw [hfo] | rfl)) ?_
          have hSM9 : g_SM n τ w st tr Z9 := g_SM_fr hSM hfr9 (by decide)
          have hTY9 : g_TY τ t (g_T τ t) := g_fo_TY hwf htn hLF9 hfo
          have hE9 : g_EM n τ Z9 := hSM9.2.1
          have hz9 : Z9 41 0 = nI n := hSM9.2.2.1
          refine j_if_eq_n C 27 34 (by omega) dX8_type_27 (by decide) (fun _ => ?_) (fun h => absurd h (by omega))
          refine j_iconst C 34 (v := nI 0) dX8_type_34 rfl ?_
          refine j_put C 35 (ci := 8) hL tyX8_ok nmX8 rfl 0 (wm_o0 bd c Z9 L) 0 (by decide) f73 rfl rfl (tyX8_ok 0 (by decide)) rfl rfl (Nat.le_of_ble_eq_true rfl) (wm_p40 bd c Z9 L (nI (0))) dX8_type_35 ?_
          refine j_aload_n C 38 0 dX8_type_38 rfl rfl ?_
          refine j_get C 39 (ci := 8) hL rfl 0 (wm_o0 bd c (upR Z9 40 (fun _ => nI (0))) L) 0 (by decide) f73 rfl (v := .int (nI (0))) rfl dX8_type_39 ?_
          refine j_if_le_n C 42 47 (by omega) dX8_type_42 (by decide) (fun _ => ?_) (fun h => absurd h (by omega))
          refine j_iload_n C 47 2 dX8_type_47 rfl rfl ?_
          refine j_iconst C 48 (v := nI 1) dX8_type_48 rfl ?_
          refine j_icmp_ne C 49 61 dX8_type_49 (by decide) (fun h49 => ?_) (fun h49 => ?_)
          · refine j_iload_n C 61 2 dX8_type_61 rfl rfl ?_
            refine j_iconst C 62 (v := nI 2) dX8_type_62 rfl ?_
            refine j_icmp_ne C 63 75 dX8_type_63 (by decide) (fun h63 => ?_) (fun h63 => ?_)
            · refine j_aload_n C 75 0 dX8_type_75 rfl rfl ?_
              refine j_get C 76 (ci := 8) hL rfl 0 (wm_o0 bd c (upR Z9 40 (fun _ => nI (0))) L) 8 (by decide) f28 rfl (v := .ref (bd 7)) rfl dX8_type_76 ?_
              refine j_iload_n C 79 1 dX8_type_79 rfl rfl ?_
              refine j_zald C 80 7 1 (f := Z9 7) (wm_a7 bd c (upR Z9 40 (fun _ => nI (0))) L) rfl (by omega) (by decide) dX8_type_80 ?_
              refine j_eqi (hY9 t (g_P_self hwf htn)).1 ?_
              refine j_if_eq_b C 81 88 dX8_type_81 (by decide) (fun h81 => ?_) (fun h81 => ?_)
              · refine j_iconst C 88 (v := nI 0) dX8_type_88 rfl ?_
                have hk9 : k_type n τ (nI t) y = 0 := by unfold k_type; rw [if_neg (fun z => z.elim (fun z => z hb) (fun z => z.elim h10 (fun z => z h15))), if_neg (fun z => z (by rw [hct]; exact hfo))]
                exact j_ireti C hr E (Nat.le_refl _) (Nat.le_refl _) rfl (upR Z9 40 (fun _ => nI (0))) ⟨by rw [hk9]; exact rfl, fun _ => ⟨by unfold v_type; rw [hct, if_pos (e_0of2 h10 h15 h49 h63), if_neg (by rw [h81]; decide)], g_SM_40 hSM9 _⟩, fun z => absurd hk9 z⟩ rfl dX8_type_89
              · refine j_iconst C 84 (v := nI 1) dX8_type_84 rfl ?_
                refine j_goto C 85 89 dX8_type_85 (by decide) ?_
                have hk9 : k_type n τ (nI t) y = 0 := by unfold k_type; rw [if_neg (fun z => z.elim (fun z => z hb) (fun z => z.elim h10 (fun z => z h15))), if_neg (fun z => z (by rw [hct]; exact hfo))]
                exact j_ireti C hr E (Nat.le_refl _) (Nat.le_refl _) rfl (upR Z9 40 (fun _ => nI (0))) ⟨by rw [hk9]; exact rfl, fun _ => ⟨by unfold v_type; rw [hct, if_pos (e_0of2 h10 h15 h49 h63), if_pos h81], g_SM_40 hSM9 _⟩, fun z => absurd hk9 z⟩ rfl dX8_type_89
            · refine j_aload_n C 66 0 dX8_type_66 rfl rfl ?_
              refine j_get C 67 (ci := 8) hL rfl 0 (wm_o0 bd c (upR Z9 40 (fun _ => nI (0))) L) 10 (by decide) f35 rfl (v := .ref (bd 9)) rfl dX8_type_67 ?_
              refine j_iload_n C 70 1 dX8_type_70 rfl rfl ?_
              refine j_iald C 71 9 0 (f := Z9 9) (wm_a9 bd c (upR Z9 40 (fun _ => nI (0))) L) rfl (by omega) (by decide) dX8_type_71 ?_
              refine j_eqi (hY9 t (g_P_self hwf htn)).2.2.1 ?_
              refine j_goto C 72 89 dX8_type_72 (by decide) ?_
              have hk9 : k_type n τ (nI t) y = 0 := by unfold k_type; rw [if_neg (fun z => z.elim (fun z => z hb) (fun z => z.elim h10 (fun z => z h15))), if_neg (fun z => z (by rw [hct]; exact hfo))]
              exact j_ireti C hr E (Nat.le_refl _) (Nat.le_refl _) rfl (upR Z9 40 (fun _ => nI (0))) ⟨by rw [hk9]; exact rfl, fun _ => ⟨by unfold v_type; rw [hct, if_neg (by rw [h63]; decide), if_neg h49], g_SM_40 hSM9 _⟩, fun z => absurd hk9 z⟩ rfl dX8_type_89
          · refine j_aload_n C 52 0 dX8_type_52 rfl rfl ?_
            refine j_get C 53 (ci := 8) hL rfl 0 (wm_o0 bd c (upR Z9 40 (fun _ => nI (0))) L) 9 (by decide) f32 rfl (v := .ref (bd 8)) rfl dX8_type_53 ?_
            refine j_iload_n C 56 1 dX8_type_56 rfl rfl ?_
            refine j_iald C 57 8 0 (f := Z9 8) (wm_a8 bd c (upR Z9 40 (fun _ => nI (0))) L) rfl (by omega) (by decide) dX8_type_57 ?_
            refine j_eqi (hY9 t (g_P_self hwf htn)).2.1 ?_
            refine j_goto C 58 89 dX8_type_58 (by decide) ?_
            have hk9 : k_type n τ (nI t) y = 0 := by unfold k_type; rw [if_neg (fun z => z.elim (fun z => z hb) (fun z => z.elim h10 (fun z => z h15))), if_neg (fun z => z (by rw [hct]; exact hfo))]
            exact j_ireti C hr E (Nat.le_refl _) (Nat.le_refl _) rfl (upR Z9 40 (fun _ => nI (0))) ⟨by rw [hk9]; exact rfl, fun _ => ⟨by unfold v_type; rw [hct, if_neg (by rw [h49]; decide), if_pos h49], g_SM_40 hSM9 _⟩, fun z => absurd hk9 z⟩ rfl dX8_type_89
        · refine j_iconst C 18 (v := nI 1) dX8_type_18 rfl ?_
          refine j_goto C 19 35 dX8_type_19 (by decide) ?_
          refine j_put C 35 (ci := 8) hL tyX8_ok nmX8 rfl 0 (wm_o0 bd c Z L) 0 (by decide) f73 rfl rfl (tyX8_ok 0 (by decide)) rfl rfl (Nat.le_of_ble_eq_true rfl) (wm_p40 bd c Z L (nI (1))) dX8_type_35 ?_
          refine j_aload_n C 38 0 dX8_type_38 rfl rfl ?_
          refine j_get C 39 (ci := 8) hL rfl 0 (wm_o0 bd c (upR Z 40 (fun _ => nI (1))) L) 0 (by decide) f73 rfl (v := .int (nI (1))) rfl dX8_type_39 ?_
          refine j_if_le_n C 42 47 (by omega) dX8_type_42 (by decide) (fun h => absurd h (by omega)) (fun _ => ?_)
          refine j_iconst C 45 (v := nI 0) dX8_type_45 rfl ?_
          have hk9 : k_type n τ (nI t) y = 1 := by unfold k_type; rw [if_pos (Or.inr (Or.inr h15))]
          exact j_ireti C hr E (Nat.le_refl _) (Nat.le_refl _) rfl (upR Z 40 (fun _ => nI (1))) ⟨by rw [hk9]; rfl, fun z => absurd z (by rw [hk9]; decide), fun _ => g_SM_40 hSM _⟩ rfl dX8_type_46
    · refine j_aload_n C 0 0 dX8_type_0 rfl rfl ?_
      refine j_aload_n C 1 0 dX8_type_1 rfl rfl ?_
      refine j_iload_n C 2 1 dX8_type_2 rfl rfl ?_
      refine j_callI (mc := 0) (ms := 0) C 3 (c_X8_isTerm (jl κ) D bd c Z L n (nI (t)) hz) gX8_type_X8_isTerm rfl rfl rfl hd_X8_isTerm (by rw [hR]; exact ⟨Nat.le_of_ble_eq_true rfl, Nat.le_of_ble_eq_true rfl⟩) (ci := 8) rfl 0 (wm_o0 bd c Z L) rfl (Nat.le_of_ble_eq_true rfl) ⟨Nat.zero_le _, Nat.zero_le _⟩ dX8_type_3 (fun r3 _ e3 => ?_)
      refine j_eqi (y := b2 true) (e3.trans (by rw [decide_eq_true hb])) ?_
      refine j_if_eq_b C 6 (b := true) 18 dX8_type_6 (by decide) (fun h => by cases h) (fun _ => ?_)
      refine j_iload_n C 9 2 dX8_type_9 rfl rfl ?_
      refine j_if_lt C 10 18 dX8_type_10 (by decide) (fun h10 => ?_) (fun h10 => ?_)
      · refine j_iconst C 18 (v := nI 1) dX8_type_18 rfl ?_
        refine j_goto C 19 35 dX8_type_19 (by decide) ?_
        refine j_put C 35 (ci := 8) hL tyX8_ok nmX8 rfl 0 (wm_o0 bd c Z L) 0 (by decide) f73 rfl rfl (tyX8_ok 0 (by decide)) rfl rfl (Nat.le_of_ble_eq_true rfl) (wm_p40 bd c Z L (nI (1))) dX8_type_35 ?_
        refine j_aload_n C 38 0 dX8_type_38 rfl rfl ?_
        refine j_get C 39 (ci := 8) hL rfl 0 (wm_o0 bd c (upR Z 40 (fun _ => nI (1))) L) 0 (by decide) f73 rfl (v := .int (nI (1))) rfl dX8_type_39 ?_
        refine j_if_le_n C 42 47 (by omega) dX8_type_42 (by decide) (fun h => absurd h (by omega)) (fun _ => ?_)
        refine j_iconst C 45 (v := nI 0) dX8_type_45 rfl ?_
        have hk9 : k_type n τ (nI t) y = 1 := by unfold k_type; rw [if_pos (Or.inr (Or.inl h10))]
        exact j_ireti C hr E (Nat.le_refl _) (Nat.le_refl _) rfl (upR Z 40 (fun _ => nI (1))) ⟨by rw [hk9]; rfl, fun z => absurd z (by rw [hk9]; decide), fun _ => g_SM_40 hSM _⟩ rfl dX8_type_46
      · refine j_iload_n C 13 2 dX8_type_13 rfl rfl ?_
        refine j_iconst C 14 (v := nI 2) dX8_type_14 rfl ?_
        refine j_icmp_le C 15 22 dX8_type_15 (by decide) (fun h15 => ?_) (fun h15 => ?_)
        · refine j_aload_n C 22 0 dX8_type_22 rfl rfl ?_
          refine j_iload_n C 23 1 dX8_type_23 rfl rfl ?_
          refine j_callI (mc := 0) (ms := 0) C 24 (c_X8_faultOf (jl κ) D bd c Z L t hwf htn hE hz) gX8_type_X8_faultOf rfl rfl rfl hd_X8_faultOf (by rw [hR]; exact ⟨Nat.le_of_ble_eq_true rfl, Nat.le_of_ble_eq_true rfl⟩) (ci := 8) rfl 0 (wm_o0 bd c Z L) rfl (Nat.le_of_ble_eq_true rfl) ⟨Nat.zero_le _, Nat.zero_le _⟩ dX8_type_24 (fun r9 Z9 q9 => ?_)
          obtain ⟨e9, ⟨hLF9, hY9, hB9, hI9⟩, hfr9⟩ := q9
          refine j_eqi (y := nI (g_fo τ t)) (e9.trans (by first | rw [hfo] | rfl)) ?_
          have hSM9 : g_SM n τ w st tr Z9 := g_SM_fr hSM hfr9 (by decide)
          refine j_if_eq_n C 27 34 (by omega) dX8_type_27 (by decide) (fun h => absurd h (by omega)) (fun _ => ?_)
          refine j_iconst C 30 (v := nI 2) dX8_type_30 rfl ?_
          refine j_goto C 31 35 dX8_type_31 (by decide) ?_
          refine j_put C 35 (ci := 8) hL tyX8_ok nmX8 rfl 0 (wm_o0 bd c Z9 L) 0 (by decide) f73 rfl rfl (tyX8_ok 0 (by decide)) rfl rfl (Nat.le_of_ble_eq_true rfl) (wm_p40 bd c Z9 L (nI (2))) dX8_type_35 ?_
          refine j_aload_n C 38 0 dX8_type_38 rfl rfl ?_
          refine j_get C 39 (ci := 8) hL rfl 0 (wm_o0 bd c (upR Z9 40 (fun _ => nI (2))) L) 0 (by decide) f73 rfl (v := .int (nI (2))) rfl dX8_type_39 ?_
          refine j_if_le_n C 42 47 (by omega) dX8_type_42 (by decide) (fun h => absurd h (by omega)) (fun _ => ?_)
          refine j_iconst C 45 (v := nI 0) dX8_type_45 rfl ?_
          have hk9 : k_type n τ (nI t) y = 2 := by unfold k_type; rw [if_neg (fun z => z.elim (fun z => z hb) (fun z => z.elim h10 (fun z => z h15))), if_pos (by rw [hct]; exact hfo)]
          exact j_ireti C hr E (Nat.le_refl _) (Nat.le_refl _) rfl (upR Z9 40 (fun _ => nI (2))) ⟨by rw [hk9]; rfl, fun z => absurd z (by rw [hk9]; decide), fun _ => g_SM_40 hSM9 _⟩ rfl dX8_type_46
        · refine j_iconst C 18 (v := nI 1) dX8_type_18 rfl ?_
          refine j_goto C 19 35 dX8_type_19 (by decide) ?_
          refine j_put C 35 (ci := 8) hL tyX8_ok nmX8 rfl 0 (wm_o0 bd c Z L) 0 (by decide) f73 rfl rfl (tyX8_ok 0 (by decide)) rfl rfl (Nat.le_of_ble_eq_true rfl) (wm_p40 bd c Z L (nI (1))) dX8_type_35 ?_
          refine j_aload_n C 38 0 dX8_type_38 rfl rfl ?_
          refine j_get C 39 (ci := 8) hL rfl 0 (wm_o0 bd c (upR Z 40 (fun _ => nI (1))) L) 0 (by decide) f73 rfl (v := .int (nI (1))) rfl dX8_type_39 ?_
          refine j_if_le_n C 42 47 (by omega) dX8_type_42 (by decide) (fun h => absurd h (by omega)) (fun _ => ?_)
          refine j_iconst C 45 (v := nI 0) dX8_type_45 rfl ?_
          have hk9 : k_type n τ (nI t) y = 1 := by unfold k_type; rw [if_pos (Or.inr (Or.inr h15))]
          exact j_ireti C hr E (Nat.le_refl _) (Nat.le_refl _) rfl (upR Z 40 (fun _ => nI (1))) ⟨by rw [hk9]; rfl, fun z => absurd z (by rw [hk9]; decide), fun _ => g_SM_40 hSM _⟩ rfl dX8_type_46
  · refine j_aload_n C 0 0 dX8_type_0 rfl rfl ?_
    refine j_aload_n C 1 0 dX8_type_1 rfl rfl ?_
    refine j_iload_n C 2 1 dX8_type_2 rfl rfl ?_
    refine j_callI (mc := 0) (ms := 0) C 3 (c_X8_isTerm (jl κ) D bd c Z L n (x) hz) gX8_type_X8_isTerm rfl rfl rfl hd_X8_isTerm (by rw [hR]; exact ⟨Nat.le_of_ble_eq_true rfl, Nat.le_of_ble_eq_true rfl⟩) (ci := 8) rfl 0 (wm_o0 bd c Z L) rfl (Nat.le_of_ble_eq_true rfl) ⟨Nat.zero_le _, Nat.zero_le _⟩ dX8_type_3 (fun r3 _ e3 => ?_)
    refine j_eqi (y := b2 false) (e3.trans (by rw [decide_eq_false hb])) ?_
    refine j_if_eq_b C 6 (b := false) 18 dX8_type_6 (by decide) (fun _ => ?_) (fun h => by cases h)
    refine j_iconst C 18 (v := nI 1) dX8_type_18 rfl ?_
    refine j_goto C 19 35 dX8_type_19 (by decide) ?_
    refine j_put C 35 (ci := 8) hL tyX8_ok nmX8 rfl 0 (wm_o0 bd c Z L) 0 (by decide) f73 rfl rfl (tyX8_ok 0 (by decide)) rfl rfl (Nat.le_of_ble_eq_true rfl) (wm_p40 bd c Z L (nI (1))) dX8_type_35 ?_
    refine j_aload_n C 38 0 dX8_type_38 rfl rfl ?_
    refine j_get C 39 (ci := 8) hL rfl 0 (wm_o0 bd c (upR Z 40 (fun _ => nI (1))) L) 0 (by decide) f73 rfl (v := .int (nI (1))) rfl dX8_type_39 ?_
    refine j_if_le_n C 42 47 (by omega) dX8_type_42 (by decide) (fun h => absurd h (by omega)) (fun _ => ?_)
    refine j_iconst C 45 (v := nI 0) dX8_type_45 rfl ?_
    have hk9 : k_type n τ x y = 1 := by unfold k_type; rw [if_pos (Or.inl hb)]
    exact j_ireti C hr E (Nat.le_refl _) (Nat.le_refl _) rfl (upR Z 40 (fun _ => nI (1))) ⟨by rw [hk9]; rfl, fun z => absurd z (by rw [hk9]; decide), fun _ => g_SM_40 hSM _⟩ rfl dX8_type_46
