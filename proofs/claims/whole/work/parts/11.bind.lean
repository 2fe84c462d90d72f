/-! contracts: Typing.bind, inferTypes, study -/
set_option maxHeartbeats 4000000 in
set_option maxRecDepth 100000 in
theorem c_X5_bind (ll : Launch) (D : va_G) (ad ro : Nat → Nat) (c : Nat → ClassId) (Z : ZT) (L : LT) {n : Nat} {τ : Tb} (u root : Nat) (hwf : g_WF n τ) (hr2 : root < n) (hE : g_ED n τ Z) (huP : u ∈ g_P τ root) : cV (S := ZT) ll yX5_bind vsX5_bind ({ frames := 1, cells := 0, slots := 0, locals := 21 } : Room) D (tysG c) [.ref (ad 2), .int (nI (u)), .int (nI (root))] (wd ad ro c Z L) (fun Z' => wd ad ro c Z' L) (fun Z' => g_fr [17, 18] Z Z' ∧ (∀ v, v ≠ u → Z' 17 v = Z 17 v ∧ Z' 18 v = Z 18 v) ∧ (g_kd τ u = 5 → (∀ k, g_B τ root (g_sg τ u) u = some k → Z' 17 u = nI k ∧ Z' 18 u = b2 (g_G τ root (g_sg τ u) u)) ∧ (g_B τ root (g_sg τ u) u = none → Z' 17 u = -1))) 0 0 := by
  refine cV_start (cc := cX5_bind) (maxL := 6) RX5 rfl (by decide +kernel) rfl (Nat.le_of_ble_eq_true rfl) ?_
  intro κ hlκ C hr _ E hR hn
  subst hlκ
  have hL : ∀ w ∈ u_ws RX5 TX5 9, w.before (ja κ) (js κ) = true := fun w h => C.t w (mX5_bind_wsX50 w h)
  have f18 : (Cond.fieldLink RX5 18 "GuardedGrammar$Typing" (TX5 3).2.1 (TX5 3).2.2.1).before (ja κ) (js κ) = true := C.t (.fieldLink RX5 18 "GuardedGrammar$Typing" "binders" "[I") (mX5_bind_o _ (by decide +kernel))
  have f21 : (Cond.fieldLink RX5 21 "GuardedGrammar$Typing" (TX5 4).2.1 (TX5 4).2.2.1).before (ja κ) (js κ) = true := C.t (.fieldLink RX5 21 "GuardedGrammar$Typing" "guarded" "[Z") (mX5_bind_o _ (by decide +kernel))
  have f38 : (Cond.fieldLink RX5 38 "GuardedGrammar$Typing" (TX5 0).2.1 (TX5 0).2.2.1).before (ja κ) (js κ) = true := C.t (.fieldLink RX5 38 "GuardedGrammar$Typing" "terms" "LGuardedGrammar$Terms;") (mX5_bind_o _ (by decide +kernel))
  show J D κ 0 0 0 [(0, .ref (ad 2)), (1, .int (nI (u))), (2, .int (nI (root)))] [] (wd ad ro c Z L)
  have h48n := hwf.1
  have hun := g_P_lt hwf hr2 huP
  have hku := (hwf.2 u hun).1
  have hsu := (hwf.2 u hun).2.2.1
  have loop : ∀ m (w i : Nat) (Z1 : ZT) (ga : Bool), root - w ≤ m → w ∈ g_P τ root → u ≤ w → i ≤ w - u → g_kd τ u = 5 → g_fr [17, 18] Z Z1 → (∀ v, v ≠ u → Z1 17 v = Z 17 v ∧ Z1 18 v = Z 18 v) →
      ((Z1 17 u = -1 ∧ g_B τ root (g_sg τ u) u = g_B τ root (g_sg τ u) w ∧ g_G τ root (g_sg τ u) u = (ga || g_G τ root (g_sg τ u) w)) ∨ (∃ k, k < 48 ∧ Z1 17 u = nI k ∧ g_B τ root (g_sg τ u) u = some k ∧ g_G τ root (g_sg τ u) u = ga)) → Z1 18 u = b2 ga →
      ∀ lv, lv_pick lv [0, 1, 2, 3, 4] = [(4, .int (nI i)), (3, .int (nI w)), (0, .ref (ad 2)), (1, .int (nI u)), (2, .int (nI root))] → J D κ 0 0 32 lv [] (wd ad ro c Z1 L) := by
    intro m
    induction m using Nat.strongRecOn with
    | ind m ih =>
      intro w i Z1 ga hm hw huw hi hk5 hfr hoth hst h18 lv hlv
      have hwn := g_P_lt hwf hr2 hw
      have hle := g_P_le hwf root hr2 w hw
      refine j_lv [0, 1, 2, 3, 4] hlv ?_
      -- the end, whatever has been found
      have done : ((g_B τ root (g_sg τ u) u = none ∧ Z1 17 u = -1) ∨ (∃ k, Z1 17 u = nI k ∧ g_B τ root (g_sg τ u) u = some k ∧ g_G τ root (g_sg τ u) u = ga)) → ∀ lv, J D κ 0 0 148 lv [] (wd ad ro c Z1 L) := by
        intro hd lv
        refine j_vreti C hr E (Nat.le_refl _) (Nat.le_refl _) Z1 ⟨hfr, hoth, fun _ => ⟨fun k hk => ?_, fun hk => ?_⟩⟩ rfl dX5_bind_148
        · rcases hd with ⟨z, -⟩ | ⟨k', z1, z2, z3⟩
          · rw [z] at hk; cases hk
          · rw [z2] at hk; cases hk; exact ⟨z1, by rw [z3]; exact h18⟩
        · rcases hd with ⟨-, z⟩ | ⟨k', z1, z2, z3⟩
          · exact z
          · rw [z2] at hk; cases hk
      refine j_iload C 32 0 dX5_bind_32 rfl ?_
      refine j_bipush C 34 (v := nI 48) dX5_bind_34 rfl ?_
      refine j_icmp_ge_n C 36 148 (by omega) (by omega) dX5_bind_36 (by decide) (fun h => absurd h (by omega)) (fun _ => ?_)
      refine j_iload_n C 39 1 dX5_bind_39 rfl rfl ?_
      refine j_iload_n C 40 4 dX5_bind_40 rfl rfl ?_
      refine j_icmp_eq_n C 41 148 (by omega) (by omega) dX5_bind_41 (by decide) (fun hwr => ?_) (fun hwr => ?_)
      · subst hwr
        refine done ?_ _
        rcases hst with ⟨z1, z2, z3⟩ | ⟨k, -, z⟩
        · exact Or.inl ⟨by rw [z2, g_B_eq hwf hr2 _ hw, if_pos rfl], z1⟩
        · exact Or.inr ⟨k, z⟩
      obtain ⟨u1, u2, u3, u4, hip, u6⟩ := g_up hwf hr2 hw hwr
      have hkw := (hwf.2 _ u2).1
      have hsw := (hwf.2 _ u2).2.2.1
      have hrw : g_kd τ (g_wh τ w) = 3 → g_rt τ (g_wh τ w) < g_wh τ w := fun z => (g_rtP hwf hr2 u3 (Or.inl z)).2.1
      rcases hst with ⟨z1, z2, z3⟩ | ⟨k, hk48, z1, z2, z3⟩
      rotate_left
      · refine j_aload_n C 44 2 dX5_bind_44 rfl rfl ?_
        refine j_get C 45 (ci := 5) hL rfl 2 (wd_o2 ad ro c Z1 L) 3 (by decide) f18 rfl (v := .ref (ad 17)) rfl dX5_bind_45 ?_
        refine j_iload_n C 48 3 dX5_bind_48 rfl rfl ?_
        refine j_iald C 49 17 0 (f := Z1 17) (wd_a17 ad ro c Z1 L) rfl (by omega) (by decide) dX5_bind_49 ?_
        refine j_eqi z1 ?_
        refine j_iconst C 50 (v := -1) dX5_bind_50 rfl ?_
        refine j_icmp_ne C 51 148 dX5_bind_51 (by decide) (fun _ => ?_) (fun h => absurd h (e_nm1 (by omega)))
        exact done (Or.inr ⟨k, z1, z2, z3⟩) _
      have j97 : ∀ (gb : Bool) (Z2 : ZT), gb = (ga || decide (g_kd τ (g_wh τ w) = 3 ∧ g_rt τ (g_wh τ w) = w)) → g_fr [17, 18] Z Z2 → (∀ v, v ≠ u → Z2 17 v = Z 17 v ∧ Z2 18 v = Z 18 v) → Z2 17 u = -1 → Z2 18 u = b2 gb → ∀ lv, lv_pick lv [0, 1, 2, 3, 4, 5] = [(5, .int (nI (g_wh τ w))), (4, .int (nI i)), (3, .int (nI w)), (0, .ref (ad 2)), (1, .int (nI u)), (2, .int (nI root))] → J D κ 0 0 97 lv [] (wd ad ro c Z2 L) := by
        intro gb Z2 hgb hfr2 hoth2 y17 y18 lv hlv
        refine j_lv [0, 1, 2, 3, 4, 5] hlv ?_
        have gw := g_G_eq hwf hr2 (g_sg τ u) hw
        have bw := g_B_eq hwf hr2 (g_sg τ u) hw
        rw [if_neg hwr] at gw bw
        refine j_aload_n C 97 3 dX5_bind_97 rfl rfl ?_
        refine j_get C 98 (ci := 5) hL rfl 2 (wd_o2 ad ro c Z2 L) 0 (by decide) f38 rfl (v := .ref (ad 1)) rfl dX5_bind_98 ?_
        refine j_iload C 101 0 dX5_bind_101 rfl ?_
        refine j_callI (mc := 0) (ms := 0) C 103 (c_X4_kind (jl κ) D ad ro c Z2 L (g_wh τ w) (by omega)) gX5_bind_X4_kind rfl rfl rfl hd_X4_kind (by rw [hR]; exact ⟨Nat.le_of_ble_eq_true rfl, Nat.le_of_ble_eq_true rfl⟩) (ci := 4) rfl 1 (wd_o1 ad ro c Z2 L) rfl (Nat.le_of_ble_eq_true rfl) ⟨Nat.zero_le _, Nat.zero_le _⟩ dX5_bind_103 (fun r103 _ e103 => ?_)
        refine j_eqi (y := nI (g_kd τ (g_wh τ w))) (e103.trans (by rw [hfr2 9 (by decide)]; exact (hE _ (by omega)).1)) ?_
        refine j_bipush C 106 (v := nI 6) dX5_bind_106 rfl ?_
        refine j_icmp_ne_n C 108 139 (by omega) (by omega) dX5_bind_108 (by decide) (fun h108 => ?_) (fun h108 => ?_)
        · refine j_iload C 139 0 dX5_bind_139 rfl ?_
          refine j_istore_n C 141 (lv' := [(3, .int (nI (g_wh τ w))), (5, .int (nI (g_wh τ w))), (4, .int (nI (i))), (0, .ref (ad 2)), (1, .int (nI (u))), (2, .int (nI (root)))]) dX5_bind_141 rfl (by rw [hn]; decide) rfl ?_
          refine j_iinc C 142 2 (v := (nI (i + 1))) (lv' := [(4, .int (nI (i + 1))), (3, .int (nI (g_wh τ w))), (5, .int (nI (g_wh τ w))), (0, .ref (ad 2)), (1, .int (nI (u))), (2, .int (nI (root)))]) dX5_bind_142 rfl (nI_add (i) 1) (by rw [hn]; decide) rfl ?_
          refine j_goto C 145 32 dX5_bind_145 (by decide) ?_
          rw [if_neg (fun z => h108 z.1)] at gw bw
          refine j_lv [0, 1, 3, 4, 5] rfl ?_
          exact ih (root - g_wh τ w) (by omega) (g_wh τ w) (i + 1) Z2 gb (Nat.le_refl _) u3 (by omega) (by omega) hk5 hfr2 hoth2 (Or.inl ⟨y17, by rw [z2, bw], by rw [z3, gw, hgb, Bool.or_assoc]⟩) y18 _ rfl
        · refine j_aload_n C 111 3 dX5_bind_111 rfl rfl ?_
          refine j_get C 112 (ci := 5) hL rfl 2 (wd_o2 ad ro c Z2 L) 0 (by decide) f38 rfl (v := .ref (ad 1)) rfl dX5_bind_112 ?_
          refine j_iload C 115 0 dX5_bind_115 rfl ?_
          refine j_callI (mc := 0) (ms := 0) C 117 (c_X4_value (jl κ) D ad ro c Z2 L (g_wh τ w) (by omega)) gX5_bind_X4_value rfl rfl rfl hd_X4_value (by rw [hR]; exact ⟨Nat.le_of_ble_eq_true rfl, Nat.le_of_ble_eq_true rfl⟩) (ci := 4) rfl 1 (wd_o1 ad ro c Z2 L) rfl (Nat.le_of_ble_eq_true rfl) ⟨Nat.zero_le _, Nat.zero_le _⟩ dX5_bind_117 (fun r117 _ e117 => ?_)
          refine j_eqi (y := nI (g_sg τ (g_wh τ w))) (e117.trans (by rw [hfr2 10 (by decide)]; exact (hE _ (by omega)).2.1 (by omega))) ?_
          refine j_aload_n C 120 3 dX5_bind_120 rfl rfl ?_
          refine j_get C 121 (ci := 5) hL rfl 2 (wd_o2 ad ro c Z2 L) 0 (by decide) f38 rfl (v := .ref (ad 1)) rfl dX5_bind_121 ?_
          refine j_iload_n C 124 4 dX5_bind_124 rfl rfl ?_
          refine j_callI (mc := 0) (ms := 0) C 125 (c_X4_value (jl κ) D ad ro c Z2 L (u) (by omega)) gX5_bind_X4_value rfl rfl rfl hd_X4_value (by rw [hR]; exact ⟨Nat.le_of_ble_eq_true rfl, Nat.le_of_ble_eq_true rfl⟩) (ci := 4) rfl 1 (wd_o1 ad ro c Z2 L) rfl (Nat.le_of_ble_eq_true rfl) ⟨Nat.zero_le _, Nat.zero_le _⟩ dX5_bind_125 (fun r125 _ e125 => ?_)
          refine j_eqi (y := nI (g_sg τ (u))) (e125.trans (by rw [hfr2 10 (by decide)]; exact (hE _ (by omega)).2.1 (by omega))) ?_
          refine j_icmp_ne_n C 128 139 (by omega) (by omega) dX5_bind_128 (by decide) (fun h128 => ?_) (fun h128 => ?_)
          · refine j_iload C 139 0 dX5_bind_139 rfl ?_
            refine j_istore_n C 141 (lv' := [(3, .int (nI (g_wh τ w))), (5, .int (nI (g_wh τ w))), (4, .int (nI (i))), (0, .ref (ad 2)), (1, .int (nI (u))), (2, .int (nI (root)))]) dX5_bind_141 rfl (by rw [hn]; decide) rfl ?_
            refine j_iinc C 142 2 (v := (nI (i + 1))) (lv' := [(4, .int (nI (i + 1))), (3, .int (nI (g_wh τ w))), (5, .int (nI (g_wh τ w))), (0, .ref (ad 2)), (1, .int (nI (u))), (2, .int (nI (root)))]) dX5_bind_142 rfl (nI_add (i) 1) (by rw [hn]; decide) rfl ?_
            refine j_goto C 145 32 dX5_bind_145 (by decide) ?_
            rw [if_neg (fun z => h128 z.2)] at gw bw
            refine j_lv [0, 1, 3, 4, 5] rfl ?_
            exact ih (root - g_wh τ w) (by omega) (g_wh τ w) (i + 1) Z2 gb (Nat.le_refl _) u3 (by omega) (by omega) hk5 hfr2 hoth2 (Or.inl ⟨y17, by rw [z2, bw], by rw [z3, gw, hgb, Bool.or_assoc]⟩) y18 _ rfl
          · refine j_aload_n C 131 3 dX5_bind_131 rfl rfl ?_
            refine j_get C 132 (ci := 5) hL rfl 2 (wd_o2 ad ro c Z2 L) 3 (by decide) f18 rfl (v := .ref (ad 17)) rfl dX5_bind_132 ?_
            refine j_iload_n C 135 4 dX5_bind_135 rfl rfl ?_
            refine j_iload C 136 0 dX5_bind_136 rfl ?_
            refine j_iast C 138 17 0 (f := Z2 17) (wd_a17 ad ro c Z2 L) rfl (by omega) (by decide) (wd_s17 ad ro c Z2 L (upd (Z2 17) (u) (nI (g_wh τ w)))) dX5_bind_138 ?_
            refine j_iload C 139 0 dX5_bind_139 rfl ?_
            refine j_istore_n C 141 (lv' := [(3, .int (nI (g_wh τ w))), (5, .int (nI (g_wh τ w))), (4, .int (nI (i))), (0, .ref (ad 2)), (1, .int (nI (u))), (2, .int (nI (root)))]) dX5_bind_141 rfl (by rw [hn]; decide) rfl ?_
            refine j_iinc C 142 2 (v := (nI (i + 1))) (lv' := [(4, .int (nI (i + 1))), (3, .int (nI (g_wh τ w))), (5, .int (nI (g_wh τ w))), (0, .ref (ad 2)), (1, .int (nI (u))), (2, .int (nI (root)))]) dX5_bind_142 rfl (nI_add (i) 1) (by rw [hn]; decide) rfl ?_
            refine j_goto C 145 32 dX5_bind_145 (by decide) ?_
            rw [if_pos ⟨h108, h128⟩, Bool.or_false] at gw
            rw [if_pos ⟨h108, h128⟩] at bw
            refine j_lv [0, 1, 3, 4, 5] rfl ?_
            exact ih (root - g_wh τ w) (by omega) (g_wh τ w) (i + 1) (upR Z2 17 (upd (Z2 17) (u) (nI (g_wh τ w)))) gb (Nat.le_refl _) u3 (by omega) (by omega) hk5 (g_fr_up hfr2 (by decide) _) (fun v hv => ⟨(by show upd (Z2 17) u _ v = _; rw [e_upd_ne _ _ hv]; exact (hoth2 v hv).1), (hoth2 v hv).2⟩) (Or.inr ⟨g_wh τ w, by omega, (by show upd (Z2 17) u _ u = _; rw [e_upd_same]), by rw [z2, bw], by rw [z3, gw, hgb]⟩) y18 _ rfl
      refine j_aload_n C 44 2 dX5_bind_44 rfl rfl ?_
      refine j_get C 45 (ci := 5) hL rfl 2 (wd_o2 ad ro c Z1 L) 3 (by decide) f18 rfl (v := .ref (ad 17)) rfl dX5_bind_45 ?_
      refine j_iload_n C 48 3 dX5_bind_48 rfl rfl ?_
      refine j_iald C 49 17 0 (f := Z1 17) (wd_a17 ad ro c Z1 L) rfl (by omega) (by decide) dX5_bind_49 ?_
      refine j_eqi z1 ?_
      refine j_iconst C 50 (v := -1) dX5_bind_50 rfl ?_
      refine j_icmp_ne C 51 148 dX5_bind_51 (by decide) (fun h => absurd rfl h) (fun _ => ?_)
      refine j_aload_n C 54 2 dX5_bind_54 rfl rfl ?_
      refine j_get C 55 (ci := 5) hL rfl 2 (wd_o2 ad ro c Z1 L) 0 (by decide) f38 rfl (v := .ref (ad 1)) rfl dX5_bind_55 ?_
      refine j_iload_n C 58 1 dX5_bind_58 rfl rfl ?_
      refine j_callI (mc := 0) (ms := 0) C 59 (c_X4_whole (jl κ) D ad ro c Z1 L (w) (by omega)) gX5_bind_X4_whole rfl rfl rfl hd_X4_whole (by rw [hR]; exact ⟨Nat.le_of_ble_eq_true rfl, Nat.le_of_ble_eq_true rfl⟩) (ci := 4) rfl 1 (wd_o1 ad ro c Z1 L) rfl (Nat.le_of_ble_eq_true rfl) ⟨Nat.zero_le _, Nat.zero_le _⟩ dX5_bind_59 (fun r59 _ e59 => ?_)
      refine j_eqi (y := nI (g_wh τ (w))) (e59.trans (by rw [hfr 13 (by decide)]; exact (hE w (by omega)).2.2.2.2.1.trans (if_pos hip))) ?_
      refine j_istore C 62 (lv' := [(5, .int (nI (g_wh τ (w)))), (4, .int (nI (i))), (3, .int (nI (w))), (0, .ref (ad 2)), (1, .int (nI (u))), (2, .int (nI (root)))]) dX5_bind_62 (by rw [hn]; decide) rfl ?_
      refine j_aload_n C 64 3 dX5_bind_64 rfl rfl ?_
      refine j_get C 65 (ci := 5) hL rfl 2 (wd_o2 ad ro c Z1 L) 0 (by decide) f38 rfl (v := .ref (ad 1)) rfl dX5_bind_65 ?_
      refine j_iload C 68 0 dX5_bind_68 rfl ?_
      refine j_callI (mc := 0) (ms := 0) C 70 (c_X4_kind (jl κ) D ad ro c Z1 L (g_wh τ (w)) (by omega)) gX5_bind_X4_kind rfl rfl rfl hd_X4_kind (by rw [hR]; exact ⟨Nat.le_of_ble_eq_true rfl, Nat.le_of_ble_eq_true rfl⟩) (ci := 4) rfl 1 (wd_o1 ad ro c Z1 L) rfl (Nat.le_of_ble_eq_true rfl) ⟨Nat.zero_le _, Nat.zero_le _⟩ dX5_bind_70 (fun r70 _ e70 => ?_)
      refine j_eqi (y := nI (g_kd τ (g_wh τ (w)))) (e70.trans (by rw [hfr 9 (by decide)]; exact (hE _ (by omega)).1)) ?_
      refine j_iconst C 73 (v := nI 3) dX5_bind_73 rfl ?_
      refine j_icmp_ne_n C 74 97 (by omega) (by omega) dX5_bind_74 (by decide) (fun h74 => ?_) (fun h74 => ?_)
      · exact j97 ga Z1 (by rw [decide_eq_false (show ¬ (g_kd τ (g_wh τ w) = 3 ∧ g_rt τ (g_wh τ w) = w) from fun z => h74 z.1), Bool.or_false]) hfr hoth z1 h18 _ rfl
      · refine j_aload_n C 77 3 dX5_bind_77 rfl rfl ?_
        refine j_get C 78 (ci := 5) hL rfl 2 (wd_o2 ad ro c Z1 L) 0 (by decide) f38 rfl (v := .ref (ad 1)) rfl dX5_bind_78 ?_
        refine j_iload C 81 0 dX5_bind_81 rfl ?_
        refine j_callI (mc := 0) (ms := 0) C 83 (c_X4_right (jl κ) D ad ro c Z1 L (g_wh τ (w)) (by omega)) gX5_bind_X4_right rfl rfl rfl hd_X4_right (by rw [hR]; exact ⟨Nat.le_of_ble_eq_true rfl, Nat.le_of_ble_eq_true rfl⟩) (ci := 4) rfl 1 (wd_o1 ad ro c Z1 L) rfl (Nat.le_of_ble_eq_true rfl) ⟨Nat.zero_le _, Nat.zero_le _⟩ dX5_bind_83 (fun r83 _ e83 => ?_)
        refine j_eqi (y := nI (g_rt τ (g_wh τ (w)))) (e83.trans (by rw [hfr 12 (by decide)]; exact g_E_rt hE (by omega) (by omega))) ?_
        refine j_iload_n C 86 2 dX5_bind_86 rfl rfl ?_
        refine j_icmp_ne_n C 87 97 (by omega) (by omega) dX5_bind_87 (by decide) (fun h87 => ?_) (fun h87 => ?_)
        · exact j97 ga Z1 (by rw [decide_eq_false (show ¬ (g_kd τ (g_wh τ w) = 3 ∧ g_rt τ (g_wh τ w) = w) from fun z => h87 z.2), Bool.or_false]) hfr hoth z1 h18 _ rfl
        · refine j_aload_n C 90 3 dX5_bind_90 rfl rfl ?_
          refine j_get C 91 (ci := 5) hL rfl 2 (wd_o2 ad ro c Z1 L) 4 (by decide) f21 rfl (v := .ref (ad 18)) rfl dX5_bind_91 ?_
          refine j_iload_n C 94 4 dX5_bind_94 rfl rfl ?_
          refine j_iconst C 95 (v := nI 1) dX5_bind_95 rfl ?_
          refine j_zast C 96 18 1 (f := Z1 18) (wd_a18 ad ro c Z1 L) rfl (by omega) (by decide) (nb_01 (Or.inr rfl)) (wd_s18 ad ro c Z1 L (upd (Z1 18) (u) (nI (1)))) dX5_bind_96 ?_
          exact j97 true (upR Z1 18 (upd (Z1 18) (u) (nI (1)))) (by rw [decide_eq_true (show g_kd τ (g_wh τ w) = 3 ∧ g_rt τ (g_wh τ w) = w from ⟨h74, h87⟩), Bool.or_true]) (g_fr_up hfr (by decide) _) (fun v hv => ⟨(by show Z1 17 v = _; exact (hoth v hv).1), (by show upd (Z1 18) u _ v = _; rw [e_upd_ne _ _ hv]; exact (hoth v hv).2)⟩) z1 (by show upd (Z1 18) u _ u = _; rw [e_upd_same]; rfl) _ rfl
  refine j_aload_n C 0 0 dX5_bind_0 rfl rfl ?_
  refine j_get C 1 (ci := 5) hL rfl 2 (wd_o2 ad ro c Z L) 3 (by decide) f18 rfl (v := .ref (ad 17)) rfl dX5_bind_1 ?_
  refine j_iload_n C 4 1 dX5_bind_4 rfl rfl ?_
  refine j_iconst C 5 (v := -1) dX5_bind_5 rfl ?_
  refine j_iast C 6 17 0 (f := Z 17) (wd_a17 ad ro c Z L) rfl (by omega) (by decide) (wd_s17 ad ro c Z L (upd (Z 17) (u) (-1))) dX5_bind_6 ?_
  refine j_aload_n C 7 0 dX5_bind_7 rfl rfl ?_
  refine j_get C 8 (ci := 5) hL rfl 2 (wd_o2 ad ro c (upR Z 17 (upd (Z 17) (u) (-1))) L) 4 (by decide) f21 rfl (v := .ref (ad 18)) rfl dX5_bind_8 ?_
  refine j_iload_n C 11 1 dX5_bind_11 rfl rfl ?_
  refine j_iconst C 12 (v := nI 0) dX5_bind_12 rfl ?_
  refine j_zast C 13 18 1 (f := Z 18) (wd_a18 ad ro c (upR Z 17 (upd (Z 17) (u) (-1))) L) rfl (by omega) (by decide) (nb_01 (Or.inl rfl)) (wd_s18 ad ro c (upR Z 17 (upd (Z 17) (u) (-1))) L (upd (Z 18) (u) (nI (0)))) dX5_bind_13 ?_
  refine j_aload_n C 14 0 dX5_bind_14 rfl rfl ?_
  refine j_get C 15 (ci := 5) hL rfl 2 (wd_o2 ad ro c (upR (upR Z 17 (upd (Z 17) (u) (-1))) 18 (upd (Z 18) (u) (nI (0)))) L) 0 (by decide) f38 rfl (v := .ref (ad 1)) rfl dX5_bind_15 ?_
  refine j_iload_n C 18 1 dX5_bind_18 rfl rfl ?_
  refine j_callI (mc := 0) (ms := 0) C 19 (c_X4_kind (jl κ) D ad ro c (upR (upR Z 17 (upd (Z 17) (u) (-1))) 18 (upd (Z 18) (u) (nI (0)))) L (u) (by omega)) gX5_bind_X4_kind rfl rfl rfl hd_X4_kind (by rw [hR]; exact ⟨Nat.le_of_ble_eq_true rfl, Nat.le_of_ble_eq_true rfl⟩) (ci := 4) rfl 1 (wd_o1 ad ro c (upR (upR Z 17 (upd (Z 17) (u) (-1))) 18 (upd (Z 18) (u) (nI (0)))) L) rfl (Nat.le_of_ble_eq_true rfl) ⟨Nat.zero_le _, Nat.zero_le _⟩ dX5_bind_19 (fun r19 _ e19 => ?_)
  refine j_eqi (y := nI (g_kd τ (u))) (e19.trans ((show (upR (upR Z 17 (upd (Z 17) (u) (-1))) 18 (upd (Z 18) (u) (nI 0))) 9 u = _ from (hE u hun).1))) ?_
  refine j_iconst C 22 (v := nI 5) dX5_bind_22 rfl ?_
  refine j_icmp_eq_n C 23 27 (by omega) (by omega) dX5_bind_23 (by decide) (fun h23 => ?_) (fun h23 => ?_)
  · refine j_iload_n C 27 1 dX5_bind_27 rfl rfl ?_
    refine j_istore_n C 28 (lv' := [(3, .int (nI (u))), (0, .ref (ad 2)), (1, .int (nI (u))), (2, .int (nI (root)))]) dX5_bind_28 rfl (by rw [hn]; decide) rfl ?_
    refine j_iconst C 29 (v := nI 0) dX5_bind_29 rfl ?_
    refine j_istore C 30 (lv' := [(4, .int (nI (0))), (3, .int (nI (u))), (0, .ref (ad 2)), (1, .int (nI (u))), (2, .int (nI (root)))]) dX5_bind_30 (by rw [hn]; decide) rfl ?_
    refine j_lv [0, 1, 2, 3, 4] rfl ?_
    exact loop (root - u) u 0 (upR (upR Z 17 (upd (Z 17) (u) (-1))) 18 (upd (Z 18) (u) (nI (0)))) false (Nat.le_refl _) huP (Nat.le_refl _) (Nat.zero_le _) h23 (g_fr_up (g_fr_up g_fr_rfl (by decide) _) (by decide) _) (fun v hv => ⟨by show upd (Z 17) u _ v = _; rw [e_upd_ne _ _ hv], by show upd (Z 18) u _ v = _; rw [e_upd_ne _ _ hv]⟩) (Or.inl ⟨by show upd (Z 17) u _ u = _; rw [e_upd_same], rfl, by rw [Bool.false_or]⟩) (by show upd (Z 18) u _ u = _; rw [e_upd_same]; rfl) _ rfl
  · exact j_vreti C hr E (Nat.le_refl _) (Nat.le_refl _) (upR (upR Z 17 (upd (Z 17) (u) (-1))) 18 (upd (Z 18) (u) (nI (0)))) ⟨g_fr_up (g_fr_up g_fr_rfl (by decide) _) (by decide) _, fun v hv => ⟨by show upd (Z 17) u _ v = _; rw [e_upd_ne _ _ hv], by show upd (Z 18) u _ v = _; rw [e_upd_ne _ _ hv]⟩, fun z => absurd z h23⟩ rfl dX5_bind_26
