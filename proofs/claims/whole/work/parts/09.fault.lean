/-! contracts: Typing.widen, faultAt, firstFault -/
section FK
variable {τ : Tb} {root : Nat} {S : TS} {t : Nat}
theorem g_Fk0 (k : g_kd τ t = 0) : g_F τ root S t = (true, 0, 0) := by unfold g_F; rw [if_pos k]
theorem g_Fk2 (k : g_kd τ t = 2) : g_F τ root S t = (false, 2 ^ g_sg τ t, 0) := by unfold g_F; rw [if_neg (by omega), if_pos k]
theorem g_Fk3 (k : g_kd τ t = 3) : g_F τ root S t = (g_nu S (g_lf τ t) && g_nu S (g_rt τ t), g_fi S (g_lf τ t) ||| (if g_nu S (g_lf τ t) then g_fi S (g_rt τ t) else 0), g_af S (g_rt τ t) ||| (if g_nu S (g_rt τ t) then g_fi S (g_rt τ t) ||| g_af S (g_lf τ t) else 0)) := by unfold g_F; rw [if_neg (by omega), if_neg (by omega), if_pos k]
theorem g_Fk4 (k : g_kd τ t = 4) : g_F τ root S t = g_jn (S (g_lf τ t)) (S (g_rt τ t)) := by unfold g_F; rw [if_neg (by omega), if_neg (by omega), if_neg (by omega), if_pos k]; rfl
theorem g_Fk5 (k : g_kd τ t = 5) : g_F τ root S t = g_oq S (g_B τ root (g_sg τ t) t) := by
  unfold g_F; rw [if_neg (by omega), if_neg (by omega), if_neg (by omega), if_neg (by omega), if_pos k]
  cases g_B τ root (g_sg τ t) t <;> rfl
theorem g_Fk6 (k : g_kd τ t = 6) : g_F τ root S t = S (g_lf τ t) := by unfold g_F; rw [if_neg (by omega), if_neg (by omega), if_neg (by omega), if_neg (by omega), if_neg (by omega), if_pos k]
theorem g_Fk1 (k : g_kd τ t = 1) : g_F τ root S t = (false, 0, 0) := by unfold g_F; rw [if_neg (by omega), if_neg (by omega), if_neg (by omega), if_neg (by omega), if_neg (by omega), if_neg (by omega)]
theorem g_E_lf {n : Nat} {K V A B W Q : Nat → Int32} (hE : g_E n τ K V A B W Q) (ht : t < n) (hk : g_kd τ t = 3 ∨ g_kd τ t = 4 ∨ g_kd τ t = 6) : A t = nI (g_lf τ t) := by
  rw [(hE t ht).2.2.1, if_pos hk]
theorem g_E_rt {n : Nat} {K V A B W Q : Nat → Int32} (hE : g_E n τ K V A B W Q) (ht : t < n) (hk : g_kd τ t = 3 ∨ g_kd τ t = 4) : B t = nI (g_rt τ t) := by
  rw [(hE t ht).2.2.2.1, if_pos hk]
end FK
theorem e_p2 {k : Nat} (h : k < 8) : 2 ^ k < 256 := by
  have : 2 ^ k < 2 ^ 8 := Nat.pow_lt_pow_right (by decide) h
  simpa using this
theorem g_wp_two {n : Nat} {τ : Tb} {root : Nat} {S : TS} {t : Nat} (hwf : g_WF n τ) (hr : root < n) (ht : t ∈ g_P τ root) (hk : g_kd τ t = 4) {Z Z1 Z2 : ZT} {r1 r2 : Int32} (q1 : g_wp τ root S t (S (g_lf τ t)) Z r1 Z1) (q2 : g_wp τ root (g_upS S t (g_jn (S t) (S (g_lf τ t)))) t ((g_upS S t (g_jn (S t) (S (g_lf τ t)))) (g_rt τ t)) Z1 r2 Z2) (b : Bool)
    (h1 : b = true → g_jn (S t) (S (g_lf τ t)) ≠ S t ∨ g_jn ((g_upS S t (g_jn (S t) (S (g_lf τ t)))) t) ((g_upS S t (g_jn (S t) (S (g_lf τ t)))) (g_rt τ t)) ≠ (g_upS S t (g_jn (S t) (S (g_lf τ t)))) t)
    (h2 : b = false → ¬ (g_jn (S t) (S (g_lf τ t)) ≠ S t) ∧ ¬ (g_jn ((g_upS S t (g_jn (S t) (S (g_lf τ t)))) t) ((g_upS S t (g_jn (S t) (S (g_lf τ t)))) (g_rt τ t)) ≠ (g_upS S t (g_jn (S t) (S (g_lf τ t)))) t)) :
    g_wp τ root S t (g_F τ root S t) Z (b2 b) Z2 := by
  have hne : g_rt τ t ≠ t := by have := (g_rtP hwf hr ht (Or.inr hk)).2.1; omega
  rw [g_upS_same, g_upS_ne hne] at h1 h2
  obtain ⟨-, q21, q22⟩ := q2
  rw [g_upS_same, g_upS_ne hne, g_upS_upS] at q21
  rw [g_Fk4 hk]
  refine ⟨?_, ?_, g_fr_trans q1.2.2 q22⟩
  · rw [← g_jn_assoc]
    congr 1
    symm
    cases b with
    | true => exact decide_eq_true ((g_jn_ne _ _ _).mpr (h1 rfl))
    | false => exact decide_eq_false (fun z => ((g_jn_ne _ _ _).mp z).elim (h2 rfl).1 (h2 rfl).2)
  · rw [← g_jn_assoc]
    exact q21
set_option maxHeartbeats 4000000 in
set_option maxRecDepth 100000 in
theorem c_X5_widen (ll : Launch) (D : va_G) (ad ro : Nat → Nat) (c : Nat → ClassId) (Z : ZT) (L : LT) {n : Nat} {τ : Tb} {root : Nat} (S : TS) (t : Nat) (hwf : g_WF n τ) (hr2 : root < n) (hE : g_ED n τ Z) (hB : g_BD τ root Z) (hY : g_YD τ root S Z) (ht : t ∈ g_P τ root) : cI (S := ZT) ll yX5_widen vsX5_widen ({ frames := 2, cells := 0, slots := 0, locals := 50 } : Room) D (tysG c) [.ref (ad 2), .int (nI (t))] (wd ad ro c Z L) (fun Z' => wd ad ro c Z' L) (fun r Z' => g_wp τ root S t (g_F τ root S t) Z r Z') 0 0 := by
  refine cI_start (cc := cX5_widen) (maxL := 3) RX5 rfl (by decide +kernel) rfl (Nat.le_of_ble_eq_true rfl) ?_
  intro κ hlκ C hr _ E hR hn
  subst hlκ
  have hL : ∀ w ∈ u_ws RX5 TX5 9, w.before (ja κ) (js κ) = true := fun w h => C.t w (mX5_widen_wsX50 w h)
  have f38 : (Cond.fieldLink RX5 38 "GuardedGrammar$Typing" (TX5 0).2.1 (TX5 0).2.2.1).before (ja κ) (js κ) = true := C.t (.fieldLink RX5 38 "GuardedGrammar$Typing" "terms" "LGuardedGrammar$Terms;") (mX5_widen_o _ (by decide +kernel))
  have f18 : (Cond.fieldLink RX5 18 "GuardedGrammar$Typing" (TX5 3).2.1 (TX5 3).2.2.1).before (ja κ) (js κ) = true := C.t (.fieldLink RX5 18 "GuardedGrammar$Typing" "binders" "[I") (mX5_widen_o _ (by decide +kernel))
  show J D κ 0 0 0 [(0, .ref (ad 2)), (1, .int (nI (t)))] [] (wd ad ro c Z L)
  have ht48 := hwf.1
  have htn := g_P_lt hwf hr2 ht
  have hk6 : g_kd τ t ≤ 6 := (hwf.2 t htn).1
  have hk : g_kd τ t = 0 ∨ g_kd τ t = 1 ∨ g_kd τ t = 2 ∨ g_kd τ t = 3 ∨ g_kd τ t = 4 ∨ g_kd τ t = 5 ∨ g_kd τ t = 6 := by omega
  refine j_aload_n C 0 0 dX5_widen_0 rfl rfl ?_
  refine j_get C 1 (ci := 5) hL rfl 2 (wd_o2 ad ro c Z L) 0 (by decide) f38 rfl (v := .ref (ad 1)) rfl dX5_widen_1 ?_
  refine j_iload_n C 4 1 dX5_widen_4 rfl rfl ?_
  refine j_callI (mc := 0) (ms := 0) C 5 (c_X4_kind (jl κ) D ad ro c Z L (t) (by omega)) gX5_widen_X4_kind rfl rfl rfl hd_X4_kind (by rw [hR]; exact ⟨Nat.le_of_ble_eq_true rfl, Nat.le_of_ble_eq_true rfl⟩) (ci := 4) rfl 1 (wd_o1 ad ro c Z L) rfl (Nat.le_of_ble_eq_true rfl) ⟨Nat.zero_le _, Nat.zero_le _⟩ dX5_widen_5 (fun r5 _ e5 => ?_)
  refine j_eqi (y := nI (g_kd τ (t))) (e5.trans ((hE t htn).1)) ?_
  rcases hk with hk | hk | hk | hk | hk | hk | hk
  · refine j_eqi (show nI (g_kd τ t) = nI 0 by rw [hk]) ?_
    refine j_tin_n C 8 (a := 0) (off := 44) 52 (by decide) dX5_widen_8 (by decide) (by decide) (by decide) (by decide) ?_
    refine j_aload_n C 52 0 dX5_widen_52 rfl rfl ?_
    refine j_iload_n C 53 1 dX5_widen_53 rfl rfl ?_
    refine j_iconst C 54 (v := nI 1) dX5_widen_54 rfl ?_
    refine j_iconst C 55 (v := nI 0) dX5_widen_55 rfl ?_
    refine j_iconst C 56 (v := nI 0) dX5_widen_56 rfl ?_
    refine j_callI (mc := 0) (ms := 0) C 57 (c_X5_addToType (jl κ) D ad ro c Z L (t) true (0) (0) (g_nu S t) (g_fi S t) (g_af S t) (by omega) (hY t ht).1 (hY t ht).2.1 (hY t ht).2.2.1 (by decide) (by decide) (hY t ht).2.2.2.1 (hY t ht).2.2.2.2) gX5_widen_X5_addToType rfl rfl rfl hd_X5_addToType (by rw [hR]; exact ⟨Nat.le_of_ble_eq_true rfl, Nat.le_of_ble_eq_true rfl⟩) (ci := 5) rfl 2 (wd_o2 ad ro c Z L) rfl (Nat.le_of_ble_eq_true rfl) ⟨Nat.zero_le _, Nat.zero_le _⟩ dX5_widen_57 (fun r57 _ e57 => ?_)
    subst e57
    exact j_ireti C hr E (Nat.le_refl _) (Nat.le_refl _) (zr_b _) (g_aT Z S t (true, 0, 0)) (by rw [g_Fk0 hk]; exact g_wp_add (q := (true, 0, 0)) hY ht (by decide) (by decide)) rfl dX5_widen_60
  · refine j_eqi (show nI (g_kd τ t) = nI 1 by rw [hk]) ?_
    refine j_tin_n C 8 (a := 1) (off := 159) 167 (by decide) dX5_widen_8 (by decide) (by decide) (by decide) (by decide) ?_
    refine j_iconst C 167 (v := nI 0) dX5_widen_167 rfl ?_
    exact j_ireti C hr E (Nat.le_refl _) (Nat.le_refl _) (by decide) Z (by rw [g_Fk1 hk]; exact g_wp_no hY) rfl dX5_widen_168
  · refine j_eqi (show nI (g_kd τ t) = nI 2 by rw [hk]) ?_
    refine j_tin_n C 8 (a := 2) (off := 53) 61 (by decide) dX5_widen_8 (by decide) (by decide) (by decide) (by decide) ?_
    refine j_aload_n C 61 0 dX5_widen_61 rfl rfl ?_
    refine j_iload_n C 62 1 dX5_widen_62 rfl rfl ?_
    refine j_iconst C 63 (v := nI 0) dX5_widen_63 rfl ?_
    refine j_iconst C 64 (v := nI 1) dX5_widen_64 rfl ?_
    refine j_aload_n C 65 0 dX5_widen_65 rfl rfl ?_
    refine j_get C 66 (ci := 5) hL rfl 2 (wd_o2 ad ro c Z L) 0 (by decide) f38 rfl (v := .ref (ad 1)) rfl dX5_widen_66 ?_
    refine j_iload_n C 69 1 dX5_widen_69 rfl rfl ?_
    refine j_callI (mc := 0) (ms := 0) C 70 (c_X4_value (jl κ) D ad ro c Z L (t) (by omega)) gX5_widen_X4_value rfl rfl rfl hd_X4_value (by rw [hR]; exact ⟨Nat.le_of_ble_eq_true rfl, Nat.le_of_ble_eq_true rfl⟩) (ci := 4) rfl 1 (wd_o1 ad ro c Z L) rfl (Nat.le_of_ble_eq_true rfl) ⟨Nat.zero_le _, Nat.zero_le _⟩ dX5_widen_70 (fun r70 _ e70 => ?_)
    refine j_eqi (y := nI (g_sg τ (t))) (e70.trans ((hE t htn).2.1 (by omega))) ?_
    refine j_ishl C 73 dX5_widen_73 ?_
    refine j_eqi (e_shl _ ((hwf.2 t htn).2.1 hk)) ?_
    refine j_iconst C 74 (v := nI 0) dX5_widen_74 rfl ?_
    refine j_callI (mc := 0) (ms := 0) C 75 (c_X5_addToType (jl κ) D ad ro c Z L (t) false (2 ^ g_sg τ t) (0) (g_nu S t) (g_fi S t) (g_af S t) (by omega) (hY t ht).1 (hY t ht).2.1 (hY t ht).2.2.1 (by have := (hwf.2 t htn).2.1 hk; exact e_p2 this) (by decide) (hY t ht).2.2.2.1 (hY t ht).2.2.2.2) gX5_widen_X5_addToType rfl rfl rfl hd_X5_addToType (by rw [hR]; exact ⟨Nat.le_of_ble_eq_true rfl, Nat.le_of_ble_eq_true rfl⟩) (ci := 5) rfl 2 (wd_o2 ad ro c Z L) rfl (Nat.le_of_ble_eq_true rfl) ⟨Nat.zero_le _, Nat.zero_le _⟩ dX5_widen_75 (fun r75 _ e75 => ?_)
    subst e75
    exact j_ireti C hr E (Nat.le_refl _) (Nat.le_refl _) (zr_b _) (g_aT Z S t (false, 2 ^ g_sg τ t, 0)) (by rw [g_Fk2 hk]; exact g_wp_add (q := (false, 2 ^ g_sg τ t, 0)) hY ht (e_p2 ((hwf.2 t htn).2.1 hk)) (by show (0 : Nat) < 256; decide)) rfl dX5_widen_78
  · refine j_eqi (show nI (g_kd τ t) = nI 3 by rw [hk]) ?_
    refine j_tin_n C 8 (a := 3) (off := 71) 79 (by decide) dX5_widen_8 (by decide) (by decide) (by decide) (by decide) ?_
    refine j_aload_n C 79 0 dX5_widen_79 rfl rfl ?_
    refine j_iload_n C 80 1 dX5_widen_80 rfl rfl ?_
    refine j_aload_n C 81 0 dX5_widen_81 rfl rfl ?_
    refine j_get C 82 (ci := 5) hL rfl 2 (wd_o2 ad ro c Z L) 0 (by decide) f38 rfl (v := .ref (ad 1)) rfl dX5_widen_82 ?_
    refine j_iload_n C 85 1 dX5_widen_85 rfl rfl ?_
    refine j_callI (mc := 0) (ms := 0) C 86 (c_X4_left (jl κ) D ad ro c Z L (t) (by omega)) gX5_widen_X4_left rfl rfl rfl hd_X4_left (by rw [hR]; exact ⟨Nat.le_of_ble_eq_true rfl, Nat.le_of_ble_eq_true rfl⟩) (ci := 4) rfl 1 (wd_o1 ad ro c Z L) rfl (Nat.le_of_ble_eq_true rfl) ⟨Nat.zero_le _, Nat.zero_le _⟩ dX5_widen_86 (fun r86 _ e86 => ?_)
    refine j_eqi (y := nI (g_lf τ (t))) (e86.trans (g_E_lf hE htn (by omega))) ?_
    refine j_aload_n C 89 0 dX5_widen_89 rfl rfl ?_
    refine j_get C 90 (ci := 5) hL rfl 2 (wd_o2 ad ro c Z L) 0 (by decide) f38 rfl (v := .ref (ad 1)) rfl dX5_widen_90 ?_
    refine j_iload_n C 93 1 dX5_widen_93 rfl rfl ?_
    refine j_callI (mc := 0) (ms := 0) C 94 (c_X4_right (jl κ) D ad ro c Z L (t) (by omega)) gX5_widen_X4_right rfl rfl rfl hd_X4_right (by rw [hR]; exact ⟨Nat.le_of_ble_eq_true rfl, Nat.le_of_ble_eq_true rfl⟩) (ci := 4) rfl 1 (wd_o1 ad ro c Z L) rfl (Nat.le_of_ble_eq_true rfl) ⟨Nat.zero_le _, Nat.zero_le _⟩ dX5_widen_94 (fun r94 _ e94 => ?_)
    refine j_eqi (y := nI (g_rt τ (t))) (e94.trans (g_E_rt hE htn (by omega))) ?_
    refine j_callI (mc := 0) (ms := 0) C 97 (c_X5_widenPair (jl κ) D ad ro c Z L S t (g_lf τ t) (g_rt τ t) hY ht (fun u hu => by have := g_P_lt hwf hr2 hu; have := hwf.1; omega) (g_lfP hwf hr2 ht (by omega)).1 (g_rtP hwf hr2 ht (by omega)).1) gX5_widen_X5_widenPair rfl rfl rfl hd_X5_widenPair (by rw [hR]; exact ⟨Nat.le_of_ble_eq_true rfl, Nat.le_of_ble_eq_true rfl⟩) (ci := 5) rfl 2 (wd_o2 ad ro c Z L) rfl (Nat.le_of_ble_eq_true rfl) ⟨Nat.zero_le _, Nat.zero_le _⟩ dX5_widen_97 (fun r97 Z97 q97 => ?_)
    refine j_eqi q97.1 ?_
    exact j_ireti C hr E (Nat.le_refl _) (Nat.le_refl _) (zr_b _) Z97 (by rw [g_Fk3 hk]; exact ⟨rfl, q97.2⟩) rfl dX5_widen_100
  · refine j_eqi (show nI (g_kd τ t) = nI 4 by rw [hk]) ?_
    refine j_tin_n C 8 (a := 4) (off := 93) 101 (by decide) dX5_widen_8 (by decide) (by decide) (by decide) (by decide) ?_
    refine j_aload_n C 101 0 dX5_widen_101 rfl rfl ?_
    refine j_iload_n C 102 1 dX5_widen_102 rfl rfl ?_
    refine j_aload_n C 103 0 dX5_widen_103 rfl rfl ?_
    refine j_get C 104 (ci := 5) hL rfl 2 (wd_o2 ad ro c Z L) 0 (by decide) f38 rfl (v := .ref (ad 1)) rfl dX5_widen_104 ?_
    refine j_iload_n C 107 1 dX5_widen_107 rfl rfl ?_
    refine j_callI (mc := 0) (ms := 0) C 108 (c_X4_left (jl κ) D ad ro c Z L (t) (by omega)) gX5_widen_X4_left rfl rfl rfl hd_X4_left (by rw [hR]; exact ⟨Nat.le_of_ble_eq_true rfl, Nat.le_of_ble_eq_true rfl⟩) (ci := 4) rfl 1 (wd_o1 ad ro c Z L) rfl (Nat.le_of_ble_eq_true rfl) ⟨Nat.zero_le _, Nat.zero_le _⟩ dX5_widen_108 (fun r108 _ e108 => ?_)
    refine j_eqi (y := nI (g_lf τ (t))) (e108.trans (g_E_lf hE htn (by omega))) ?_
    refine j_callI (mc := 0) (ms := 0) C 111 (c_X5_addTypeOf (jl κ) D ad ro c Z L S t (nI (g_lf τ t)) (some (g_lf τ t)) hY ht (fun u hu => by have := g_P_lt hwf hr2 hu; have := hwf.1; omega) rfl (fun k e => by cases e; exact (g_lfP hwf hr2 ht (by omega)).1)) gX5_widen_X5_addTypeOf rfl rfl rfl hd_X5_addTypeOf (by rw [hR]; exact ⟨Nat.le_of_ble_eq_true rfl, Nat.le_of_ble_eq_true rfl⟩) (ci := 5) rfl 2 (wd_o2 ad ro c Z L) rfl (Nat.le_of_ble_eq_true rfl) ⟨Nat.zero_le _, Nat.zero_le _⟩ dX5_widen_111 (fun r111 Z111 q111 => ?_)
    refine j_eqi q111.1 ?_
    refine j_istore_n C 114 (lv' := [(2, .int (b2 (decide (g_jn (S t) (S (g_lf τ t)) ≠ S t)))), (0, .ref (ad 2)), (1, .int (nI (t)))]) dX5_widen_114 rfl (by rw [hn]; decide) rfl ?_
    refine j_aload_n C 115 1 dX5_widen_115 rfl rfl ?_
    refine j_iload_n C 116 2 dX5_widen_116 rfl rfl ?_
    refine j_aload_n C 117 1 dX5_widen_117 rfl rfl ?_
    refine j_get C 118 (ci := 5) hL rfl 2 (wd_o2 ad ro c Z111 L) 0 (by decide) f38 rfl (v := .ref (ad 1)) rfl dX5_widen_118 ?_
    refine j_iload_n C 121 2 dX5_widen_121 rfl rfl ?_
    refine j_callI (mc := 0) (ms := 0) C 122 (c_X4_right (jl κ) D ad ro c Z111 L (t) (by omega)) gX5_widen_X4_right rfl rfl rfl hd_X4_right (by rw [hR]; exact ⟨Nat.le_of_ble_eq_true rfl, Nat.le_of_ble_eq_true rfl⟩) (ci := 4) rfl 1 (wd_o1 ad ro c Z111 L) rfl (Nat.le_of_ble_eq_true rfl) ⟨Nat.zero_le _, Nat.zero_le _⟩ dX5_widen_122 (fun r122 _ e122 => ?_)
    refine j_eqi (y := nI (g_rt τ (t))) (e122.trans (by rw [q111.2.2 12 (by decide)]; exact g_E_rt hE htn (by omega))) ?_
    refine j_callI (mc := 0) (ms := 0) C 125 (c_X5_addTypeOf (jl κ) D ad ro c Z111 L (g_upS S t (g_jn (S t) (S (g_lf τ t)))) t (nI (g_rt τ t)) (some (g_rt τ t)) q111.2.1 ht (fun u hu => by have := g_P_lt hwf hr2 hu; have := hwf.1; omega) rfl (fun k e => by cases e; exact (g_rtP hwf hr2 ht (by omega)).1)) gX5_widen_X5_addTypeOf rfl rfl rfl hd_X5_addTypeOf (by rw [hR]; exact ⟨Nat.le_of_ble_eq_true rfl, Nat.le_of_ble_eq_true rfl⟩) (ci := 5) rfl 2 (wd_o2 ad ro c Z111 L) rfl (Nat.le_of_ble_eq_true rfl) ⟨Nat.zero_le _, Nat.zero_le _⟩ dX5_widen_125 (fun r125 Z125 q125 => ?_)
    refine j_eqi q125.1 ?_
    refine j_if_ne_b C 128 135 dX5_widen_128 (by decide) (fun h128 => ?_) (fun h128 => ?_)
    · refine j_iconst C 135 (v := nI 1) dX5_widen_135 rfl ?_
      refine j_goto C 136 140 dX5_widen_136 (by decide) ?_
      exact j_ireti C hr E (Nat.le_refl _) (Nat.le_refl _) (by decide) Z125 (g_wp_two hwf hr2 ht hk q111 q125 true (fun _ => Or.inr (of_decide_eq_true h128)) (fun z => by cases z)) rfl dX5_widen_140
    · refine j_iload_n C 131 0 dX5_widen_131 rfl rfl ?_
      refine j_if_eq_b C 132 139 dX5_widen_132 (by decide) (fun h132 => ?_) (fun h132 => ?_)
      · refine j_iconst C 139 (v := nI 0) dX5_widen_139 rfl ?_
        exact j_ireti C hr E (Nat.le_refl _) (Nat.le_refl _) (by decide) Z125 (g_wp_two hwf hr2 ht hk q111 q125 false (fun z => by cases z) (fun _ => ⟨of_decide_eq_false h132, of_decide_eq_false h128⟩)) rfl dX5_widen_140
      · refine j_iconst C 135 (v := nI 1) dX5_widen_135 rfl ?_
        refine j_goto C 136 140 dX5_widen_136 (by decide) ?_
        exact j_ireti C hr E (Nat.le_refl _) (Nat.le_refl _) (by decide) Z125 (g_wp_two hwf hr2 ht hk q111 q125 true (fun _ => Or.inl (of_decide_eq_true h132)) (fun z => by cases z)) rfl dX5_widen_140
  · refine j_eqi (show nI (g_kd τ t) = nI 5 by rw [hk]) ?_
    refine j_tin_n C 8 (a := 5) (off := 133) 141 (by decide) dX5_widen_8 (by decide) (by decide) (by decide) (by decide) ?_
    refine j_aload_n C 141 0 dX5_widen_141 rfl rfl ?_
    refine j_iload_n C 142 1 dX5_widen_142 rfl rfl ?_
    refine j_aload_n C 143 0 dX5_widen_143 rfl rfl ?_
    refine j_get C 144 (ci := 5) hL rfl 2 (wd_o2 ad ro c Z L) 3 (by decide) f18 rfl (v := .ref (ad 17)) rfl dX5_widen_144 ?_
    refine j_iload_n C 147 1 dX5_widen_147 rfl rfl ?_
    refine j_iald C 148 17 0 (f := Z 17) (wd_a17 ad ro c Z L) rfl (by omega) (by decide) dX5_widen_148 ?_
    refine j_callI (mc := 0) (ms := 0) C 149 (c_X5_addTypeOf (jl κ) D ad ro c Z L S t ((Z 17) (t)) (g_B τ root (g_sg τ t) t) hY ht (fun u hu => by have := g_P_lt hwf hr2 hu; have := hwf.1; omega) (by have hb := hB t ht hk; cases e : g_B τ root (g_sg τ t) t with | none => exact hb.2 e | some k => exact (hb.1 k e).1) (fun k e => (g_B_some hwf hr2 _ _ ht (Nat.le_refl _) e).2.2.2.1)) gX5_widen_X5_addTypeOf rfl rfl rfl hd_X5_addTypeOf (by rw [hR]; exact ⟨Nat.le_of_ble_eq_true rfl, Nat.le_of_ble_eq_true rfl⟩) (ci := 5) rfl 2 (wd_o2 ad ro c Z L) rfl (Nat.le_of_ble_eq_true rfl) ⟨Nat.zero_le _, Nat.zero_le _⟩ dX5_widen_149 (fun r149 Z149 q149 => ?_)
    refine j_eqi q149.1 ?_
    exact j_ireti C hr E (Nat.le_refl _) (Nat.le_refl _) (zr_b _) Z149 (by rw [g_Fk5 hk]; exact ⟨rfl, q149.2⟩) rfl dX5_widen_152
  · refine j_eqi (show nI (g_kd τ t) = nI 6 by rw [hk]) ?_
    refine j_tin_n C 8 (a := 6) (off := 145) 153 (by decide) dX5_widen_8 (by decide) (by decide) (by decide) (by decide) ?_
    refine j_aload_n C 153 0 dX5_widen_153 rfl rfl ?_
    refine j_iload_n C 154 1 dX5_widen_154 rfl rfl ?_
    refine j_aload_n C 155 0 dX5_widen_155 rfl rfl ?_
    refine j_get C 156 (ci := 5) hL rfl 2 (wd_o2 ad ro c Z L) 0 (by decide) f38 rfl (v := .ref (ad 1)) rfl dX5_widen_156 ?_
    refine j_iload_n C 159 1 dX5_widen_159 rfl rfl ?_
    refine j_callI (mc := 0) (ms := 0) C 160 (c_X4_left (jl κ) D ad ro c Z L (t) (by omega)) gX5_widen_X4_left rfl rfl rfl hd_X4_left (by rw [hR]; exact ⟨Nat.le_of_ble_eq_true rfl, Nat.le_of_ble_eq_true rfl⟩) (ci := 4) rfl 1 (wd_o1 ad ro c Z L) rfl (Nat.le_of_ble_eq_true rfl) ⟨Nat.zero_le _, Nat.zero_le _⟩ dX5_widen_160 (fun r160 _ e160 => ?_)
    refine j_eqi (y := nI (g_lf τ (t))) (e160.trans (g_E_lf hE htn (by omega))) ?_
    refine j_callI (mc := 0) (ms := 0) C 163 (c_X5_addTypeOf (jl κ) D ad ro c Z L S t (nI (g_lf τ t)) (some (g_lf τ t)) hY ht (fun u hu => by have := g_P_lt hwf hr2 hu; have := hwf.1; omega) rfl (fun k e => by cases e; exact (g_lfP hwf hr2 ht (by omega)).1)) gX5_widen_X5_addTypeOf rfl rfl rfl hd_X5_addTypeOf (by rw [hR]; exact ⟨Nat.le_of_ble_eq_true rfl, Nat.le_of_ble_eq_true rfl⟩) (ci := 5) rfl 2 (wd_o2 ad ro c Z L) rfl (Nat.le_of_ble_eq_true rfl) ⟨Nat.zero_le _, Nat.zero_le _⟩ dX5_widen_163 (fun r163 Z163 q163 => ?_)
    refine j_eqi q163.1 ?_
    exact j_ireti C hr E (Nat.le_refl _) (Nat.le_refl _) (zr_b _) Z163 (by rw [g_Fk6 hk]; exact ⟨rfl, q163.2⟩) rfl dX5_widen_166
set_option maxHeartbeats 4000000 in
set_option maxRecDepth 100000 in
theorem c_X5_faultAt (ll : Launch) (D : va_G) (ad ro : Nat → Nat) (c : Nat → ClassId) (Z : ZT) (L : LT) {n : Nat} {τ : Tb} {root : Nat} (S : TS) (t : Nat) (hwf : g_WF n τ) (hr2 : root < n) (hE : g_ED n τ Z) (hB : g_BD τ root Z) (hY : g_YD τ root S Z) (ht : t ∈ g_P τ root) : cI (S := Unit) ll yX5_faultAt vsX5_faultAt ({ frames := 1, cells := 0, slots := 0, locals := 22 } : Room) D (tysG c) [.ref (ad 2), .int (nI (t))] (wd ad ro c Z L) (fun _ => wd ad ro c Z L) (fun r _ => r = nI (g_fa τ root S t)) 0 0 := by
  refine cI_start (cc := cX5_faultAt) (maxL := 2) RX5 rfl (by decide +kernel) rfl (Nat.le_of_ble_eq_true rfl) ?_
  intro κ hlκ C hr _ E hR hn
  subst hlκ
  have hL : ∀ w ∈ u_ws RX5 TX5 9, w.before (ja κ) (js κ) = true := fun w h => C.t w (mX5_faultAt_wsX50 w h)
  have f38 : (Cond.fieldLink RX5 38 "GuardedGrammar$Typing" (TX5 0).2.1 (TX5 0).2.2.1).before (ja κ) (js κ) = true := C.t (.fieldLink RX5 38 "GuardedGrammar$Typing" "terms" "LGuardedGrammar$Terms;") (mX5_faultAt_o _ (by decide +kernel))
  have f18 : (Cond.fieldLink RX5 18 "GuardedGrammar$Typing" (TX5 3).2.1 (TX5 3).2.2.1).before (ja κ) (js κ) = true := C.t (.fieldLink RX5 18 "GuardedGrammar$Typing" "binders" "[I") (mX5_faultAt_o _ (by decide +kernel))
  have f21 : (Cond.fieldLink RX5 21 "GuardedGrammar$Typing" (TX5 4).2.1 (TX5 4).2.2.1).before (ja κ) (js κ) = true := C.t (.fieldLink RX5 21 "GuardedGrammar$Typing" "guarded" "[Z") (mX5_faultAt_o _ (by decide +kernel))
  show J D κ 0 0 0 [(0, .ref (ad 2)), (1, .int (nI (t)))] [] (wd ad ro c Z L)
  have ht48 := hwf.1
  have htn := g_P_lt hwf hr2 ht
  have hk6 : g_kd τ t ≤ 6 := (hwf.2 t htn).1
  have hk : g_kd τ t = 0 ∨ g_kd τ t = 1 ∨ g_kd τ t = 2 ∨ g_kd τ t = 3 ∨ g_kd τ t = 4 ∨ g_kd τ t = 5 ∨ g_kd τ t = 6 := by omega
  have hlr : g_kd τ t = 3 ∨ g_kd τ t = 4 → g_lf τ t ∈ g_P τ root ∧ g_rt τ t ∈ g_P τ root ∧ g_lf τ t < 48 ∧ g_rt τ t < 48 := fun z => by
    have a := g_lfP hwf hr2 ht (by omega); have b := g_rtP hwf hr2 ht z; exact ⟨a.1, b.1, by omega, by omega⟩
  refine j_aload_n C 0 0 dX5_faultAt_0 rfl rfl ?_
  refine j_get C 1 (ci := 5) hL rfl 2 (wd_o2 ad ro c Z L) 0 (by decide) f38 rfl (v := .ref (ad 1)) rfl dX5_faultAt_1 ?_
  refine j_iload_n C 4 1 dX5_faultAt_4 rfl rfl ?_
  refine j_callI (mc := 0) (ms := 0) C 5 (c_X4_kind (jl κ) D ad ro c Z L (t) (by omega)) gX5_faultAt_X4_kind rfl rfl rfl hd_X4_kind (by rw [hR]; exact ⟨Nat.le_of_ble_eq_true rfl, Nat.le_of_ble_eq_true rfl⟩) (ci := 4) rfl 1 (wd_o1 ad ro c Z L) rfl (Nat.le_of_ble_eq_true rfl) ⟨Nat.zero_le _, Nat.zero_le _⟩ dX5_faultAt_5 (fun r5 _ e5 => ?_)
  refine j_eqi (y := nI (g_kd τ (t))) (e5.trans ((hE t htn).1)) ?_
  rcases hk with hk | hk | hk | hk | hk | hk | hk
  · refine j_eqi (show nI (g_kd τ t) = nI 0 by rw [hk]) ?_
    refine j_tout_n C 8 (a := 0) 121 (by decide) dX5_faultAt_8 (by decide) (by decide) ?_
    refine j_iconst C 121 (v := nI 0) dX5_faultAt_121 rfl ?_
    exact j_ireti C hr E (Nat.le_refl _) (Nat.le_refl _) rfl () (by unfold g_fa; rw [if_neg (by omega), if_neg (by omega), if_neg (by omega)]) rfl dX5_faultAt_122
  · refine j_eqi (show nI (g_kd τ t) = nI 1 by rw [hk]) ?_
    refine j_tout_n C 8 (a := 1) 121 (by decide) dX5_faultAt_8 (by decide) (by decide) ?_
    refine j_iconst C 121 (v := nI 0) dX5_faultAt_121 rfl ?_
    exact j_ireti C hr E (Nat.le_refl _) (Nat.le_refl _) rfl () (by unfold g_fa; rw [if_neg (by omega), if_neg (by omega), if_neg (by omega)]) rfl dX5_faultAt_122
  · refine j_eqi (show nI (g_kd τ t) = nI 2 by rw [hk]) ?_
    refine j_tout_n C 8 (a := 2) 121 (by decide) dX5_faultAt_8 (by decide) (by decide) ?_
    refine j_iconst C 121 (v := nI 0) dX5_faultAt_121 rfl ?_
    exact j_ireti C hr E (Nat.le_refl _) (Nat.le_refl _) rfl () (by unfold g_fa; rw [if_neg (by omega), if_neg (by omega), if_neg (by omega)]) rfl dX5_faultAt_122
  · refine j_eqi (show nI (g_kd τ t) = nI 3 by rw [hk]) ?_
    refine j_tin_n C 8 (a := 3) (off := 55) 63 (by decide) dX5_faultAt_8 (by decide) (by decide) (by decide) (by decide) ?_
    obtain ⟨hlP, hrP, hl48, hr48⟩ := hlr (by omega)
    refine j_aload_n C 63 0 dX5_faultAt_63 rfl rfl ?_
    refine j_aload_n C 64 0 dX5_faultAt_64 rfl rfl ?_
    refine j_get C 65 (ci := 5) hL rfl 2 (wd_o2 ad ro c Z L) 0 (by decide) f38 rfl (v := .ref (ad 1)) rfl dX5_faultAt_65 ?_
    refine j_iload_n C 68 1 dX5_faultAt_68 rfl rfl ?_
    refine j_callI (mc := 0) (ms := 0) C 69 (c_X4_left (jl κ) D ad ro c Z L (t) (by omega)) gX5_faultAt_X4_left rfl rfl rfl hd_X4_left (by rw [hR]; exact ⟨Nat.le_of_ble_eq_true rfl, Nat.le_of_ble_eq_true rfl⟩) (ci := 4) rfl 1 (wd_o1 ad ro c Z L) rfl (Nat.le_of_ble_eq_true rfl) ⟨Nat.zero_le _, Nat.zero_le _⟩ dX5_faultAt_69 (fun r69 _ e69 => ?_)
    refine j_eqi (y := nI (g_lf τ (t))) (e69.trans (g_E_lf hE htn (by omega))) ?_
    refine j_aload_n C 72 0 dX5_faultAt_72 rfl rfl ?_
    refine j_get C 73 (ci := 5) hL rfl 2 (wd_o2 ad ro c Z L) 0 (by decide) f38 rfl (v := .ref (ad 1)) rfl dX5_faultAt_73 ?_
    refine j_iload_n C 76 1 dX5_faultAt_76 rfl rfl ?_
    refine j_callI (mc := 0) (ms := 0) C 77 (c_X4_right (jl κ) D ad ro c Z L (t) (by omega)) gX5_faultAt_X4_right rfl rfl rfl hd_X4_right (by rw [hR]; exact ⟨Nat.le_of_ble_eq_true rfl, Nat.le_of_ble_eq_true rfl⟩) (ci := 4) rfl 1 (wd_o1 ad ro c Z L) rfl (Nat.le_of_ble_eq_true rfl) ⟨Nat.zero_le _, Nat.zero_le _⟩ dX5_faultAt_77 (fun r77 _ e77 => ?_)
    refine j_eqi (y := nI (g_rt τ (t))) (e77.trans (g_E_rt hE htn (by omega))) ?_
    refine j_callI (mc := 0) (ms := 0) C 80 (c_X5_isLoose (jl κ) D ad ro c Z L (g_lf τ t) (g_rt τ t) (g_nu S (g_lf τ t)) (g_af S (g_lf τ t)) (g_fi S (g_rt τ t)) (by omega) (by omega) (hY _ hlP).1 (hY _ hlP).2.2.1 (hY _ hrP).2.1 (hY _ hlP).2.2.2.2) gX5_faultAt_X5_isLoose rfl rfl rfl hd_X5_isLoose (by rw [hR]; exact ⟨Nat.le_of_ble_eq_true rfl, Nat.le_of_ble_eq_true rfl⟩) (ci := 5) rfl 2 (wd_o2 ad ro c Z L) rfl (Nat.le_of_ble_eq_true rfl) ⟨Nat.zero_le _, Nat.zero_le _⟩ dX5_faultAt_80 (fun r80 _ e80 => ?_)
    subst e80
    refine j_if_eq_b C 83 90 dX5_faultAt_83 (by decide) (fun h83 => ?_) (fun h83 => ?_)
    · refine j_iconst C 90 (v := nI 0) dX5_faultAt_90 rfl ?_
      exact j_ireti C hr E (Nat.le_refl _) (Nat.le_refl _) rfl () (by unfold g_fa; rw [if_neg (by omega), if_pos hk, if_neg (of_decide_eq_false h83)]) rfl dX5_faultAt_91
    · refine j_iconst C 86 (v := nI 3) dX5_faultAt_86 rfl ?_
      refine j_goto C 87 91 dX5_faultAt_87 (by decide) ?_
      exact j_ireti C hr E (Nat.le_refl _) (Nat.le_refl _) rfl () (by unfold g_fa; rw [if_neg (by omega), if_pos hk, if_pos (of_decide_eq_true h83)]) rfl dX5_faultAt_91
  · refine j_eqi (show nI (g_kd τ t) = nI 4 by rw [hk]) ?_
    refine j_tin_n C 8 (a := 4) (off := 84) 92 (by decide) dX5_faultAt_8 (by decide) (by decide) (by decide) (by decide) ?_
    obtain ⟨hlP, hrP, hl48, hr48⟩ := hlr (by omega)
    refine j_aload_n C 92 0 dX5_faultAt_92 rfl rfl ?_
    refine j_aload_n C 93 0 dX5_faultAt_93 rfl rfl ?_
    refine j_get C 94 (ci := 5) hL rfl 2 (wd_o2 ad ro c Z L) 0 (by decide) f38 rfl (v := .ref (ad 1)) rfl dX5_faultAt_94 ?_
    refine j_iload_n C 97 1 dX5_faultAt_97 rfl rfl ?_
    refine j_callI (mc := 0) (ms := 0) C 98 (c_X4_left (jl κ) D ad ro c Z L (t) (by omega)) gX5_faultAt_X4_left rfl rfl rfl hd_X4_left (by rw [hR]; exact ⟨Nat.le_of_ble_eq_true rfl, Nat.le_of_ble_eq_true rfl⟩) (ci := 4) rfl 1 (wd_o1 ad ro c Z L) rfl (Nat.le_of_ble_eq_true rfl) ⟨Nat.zero_le _, Nat.zero_le _⟩ dX5_faultAt_98 (fun r98 _ e98 => ?_)
    refine j_eqi (y := nI (g_lf τ (t))) (e98.trans (g_E_lf hE htn (by omega))) ?_
    refine j_aload_n C 101 0 dX5_faultAt_101 rfl rfl ?_
    refine j_get C 102 (ci := 5) hL rfl 2 (wd_o2 ad ro c Z L) 0 (by decide) f38 rfl (v := .ref (ad 1)) rfl dX5_faultAt_102 ?_
    refine j_iload_n C 105 1 dX5_faultAt_105 rfl rfl ?_
    refine j_callI (mc := 0) (ms := 0) C 106 (c_X4_right (jl κ) D ad ro c Z L (t) (by omega)) gX5_faultAt_X4_right rfl rfl rfl hd_X4_right (by rw [hR]; exact ⟨Nat.le_of_ble_eq_true rfl, Nat.le_of_ble_eq_true rfl⟩) (ci := 4) rfl 1 (wd_o1 ad ro c Z L) rfl (Nat.le_of_ble_eq_true rfl) ⟨Nat.zero_le _, Nat.zero_le _⟩ dX5_faultAt_106 (fun r106 _ e106 => ?_)
    refine j_eqi (y := nI (g_rt τ (t))) (e106.trans (g_E_rt hE htn (by omega))) ?_
    refine j_callI (mc := 0) (ms := 0) C 109 (c_X5_isDouble (jl κ) D ad ro c Z L (g_lf τ t) (g_rt τ t) (g_nu S (g_lf τ t)) (g_nu S (g_rt τ t)) (g_fi S (g_lf τ t)) (g_fi S (g_rt τ t)) (by omega) (by omega) (hY _ hlP).1 (hY _ hrP).1 (hY _ hlP).2.1 (hY _ hrP).2.1 (hY _ hlP).2.2.2.1) gX5_faultAt_X5_isDouble rfl rfl rfl hd_X5_isDouble (by rw [hR]; exact ⟨Nat.le_of_ble_eq_true rfl, Nat.le_of_ble_eq_true rfl⟩) (ci := 5) rfl 2 (wd_o2 ad ro c Z L) rfl (Nat.le_of_ble_eq_true rfl) ⟨Nat.zero_le _, Nat.zero_le _⟩ dX5_faultAt_109 (fun r109 _ e109 => ?_)
    subst e109
    refine j_if_eq_b C 112 119 dX5_faultAt_112 (by decide) (fun h112 => ?_) (fun h112 => ?_)
    · refine j_iconst C 119 (v := nI 0) dX5_faultAt_119 rfl ?_
      exact j_ireti C hr E (Nat.le_refl _) (Nat.le_refl _) rfl () (by unfold g_fa; rw [if_neg (by omega), if_neg (by omega), if_pos hk, if_neg (of_decide_eq_false h112)]) rfl dX5_faultAt_120
    · refine j_iconst C 115 (v := nI 4) dX5_faultAt_115 rfl ?_
      refine j_goto C 116 120 dX5_faultAt_116 (by decide) ?_
      exact j_ireti C hr E (Nat.le_refl _) (Nat.le_refl _) rfl () (by unfold g_fa; rw [if_neg (by omega), if_neg (by omega), if_pos hk, if_pos (of_decide_eq_true h112)]) rfl dX5_faultAt_120
  · refine j_eqi (show nI (g_kd τ t) = nI 5 by rw [hk]) ?_
    refine j_tin_n C 8 (a := 5) (off := 28) 36 (by decide) dX5_faultAt_8 (by decide) (by decide) (by decide) (by decide) ?_
    have hb := hB t ht hk
    cases e : g_B τ root (g_sg τ t) t with
    | none =>
      refine j_aload_n C 36 0 dX5_faultAt_36 rfl rfl ?_
      refine j_get C 37 (ci := 5) hL rfl 2 (wd_o2 ad ro c Z L) 3 (by decide) f18 rfl (v := .ref (ad 17)) rfl dX5_faultAt_37 ?_
      refine j_iload_n C 40 1 dX5_faultAt_40 rfl rfl ?_
      refine j_iald C 41 17 0 (f := Z 17) (wd_a17 ad ro c Z L) rfl (by omega) (by decide) dX5_faultAt_41 ?_
      refine j_eqi (hb.2 e) ?_
      refine j_iconst C 42 (v := -1) dX5_faultAt_42 rfl ?_
      refine j_icmp_ne C 43 48 dX5_faultAt_43 (by decide) (fun h => absurd rfl h) (fun _ => ?_)
      refine j_iconst C 46 (v := nI 1) dX5_faultAt_46 rfl ?_
      exact j_ireti C hr E (Nat.le_refl _) (Nat.le_refl _) rfl () (by unfold g_fa; rw [if_pos hk, e]) rfl dX5_faultAt_47
    | some k =>
      have hk48 := g_P_lt hwf hr2 (g_B_some hwf hr2 _ _ ht (Nat.le_refl _) e).2.2.2.1
      refine j_aload_n C 36 0 dX5_faultAt_36 rfl rfl ?_
      refine j_get C 37 (ci := 5) hL rfl 2 (wd_o2 ad ro c Z L) 3 (by decide) f18 rfl (v := .ref (ad 17)) rfl dX5_faultAt_37 ?_
      refine j_iload_n C 40 1 dX5_faultAt_40 rfl rfl ?_
      refine j_iald C 41 17 0 (f := Z 17) (wd_a17 ad ro c Z L) rfl (by omega) (by decide) dX5_faultAt_41 ?_
      refine j_eqi (hb.1 k e).1 ?_
      refine j_iconst C 42 (v := -1) dX5_faultAt_42 rfl ?_
      refine j_icmp_ne C 43 48 dX5_faultAt_43 (by decide) (fun _ => ?_) (fun h => absurd h (e_nm1 (by omega)))
      refine j_aload_n C 48 0 dX5_faultAt_48 rfl rfl ?_
      refine j_get C 49 (ci := 5) hL rfl 2 (wd_o2 ad ro c Z L) 4 (by decide) f21 rfl (v := .ref (ad 18)) rfl dX5_faultAt_49 ?_
      refine j_iload_n C 52 1 dX5_faultAt_52 rfl rfl ?_
      refine j_zald C 53 18 1 (f := Z 18) (wd_a18 ad ro c Z L) rfl (by omega) (by decide) dX5_faultAt_53 ?_
      refine j_eqi (hb.1 k e).2 ?_
      refine j_if_eq_b C 54 61 dX5_faultAt_54 (by decide) (fun h54 => ?_) (fun h54 => ?_)
      · refine j_iconst C 61 (v := nI 2) dX5_faultAt_61 rfl ?_
        exact j_ireti C hr E (Nat.le_refl _) (Nat.le_refl _) rfl () (by unfold g_fa; rw [if_pos hk, e]; simp [h54]) rfl dX5_faultAt_62
      · refine j_iconst C 57 (v := nI 0) dX5_faultAt_57 rfl ?_
        refine j_goto C 58 62 dX5_faultAt_58 (by decide) ?_
        exact j_ireti C hr E (Nat.le_refl _) (Nat.le_refl _) rfl () (by unfold g_fa; rw [if_pos hk, e]; simp [h54]) rfl dX5_faultAt_62
  · refine j_eqi (show nI (g_kd τ t) = nI 6 by rw [hk]) ?_
    refine j_tout_n C 8 (a := 6) 121 (by decide) dX5_faultAt_8 (by decide) (by decide) ?_
    refine j_iconst C 121 (v := nI 0) dX5_faultAt_121 rfl ?_
    exact j_ireti C hr E (Nat.le_refl _) (Nat.le_refl _) rfl () (by unfold g_fa; rw [if_neg (by omega), if_neg (by omega), if_neg (by omega)]) rfl dX5_faultAt_122
