/-! contracts: the class, I -/
theorem e_leaf {x : Int32} (h1 : ¬ x < -2) (h2 : x < nI 8) (h3 : ¬ x = -1) (h4 : ¬ x = -2) : ∃ t, t < 8 ∧ x = nI t := by
  have a1 : ¬ x.toInt < -2 := fun z => h1 (Int32.lt_iff_toInt_lt.mpr z)
  have a3 : x.toInt ≠ -1 := fun z => h3 (Int32.toInt_inj.mp z)
  have a4 : x.toInt ≠ -2 := fun z => h4 (Int32.toInt_inj.mp z)
  rcases pk_ix x (n := 8) (by decide) with h | h | h
  · have : x.toInt < 0 := Int32.lt_iff_toInt_lt.mp h
    omega
  · exact absurd h2 (Int32.not_lt.mpr h)
  · exact h
theorem g_NC_0 {n : Nat} {τ : Tb} {k s : Nat} (hn : n < 48) (hk : k ≤ 2 ∨ k = 5) (h2 : k = 2 → s < 8) (h5 : k = 5 → s < 4) : g_NC n τ k s [] (g_kn τ k []) :=
  ⟨hn, by omega, h2, fun z => z.elim h5 (fun z => by omega), fun c hc => (by cases hc), fun z => (by omega), fun z => (by omega), fun _ _ _ => rfl, by unfold g_kn; rw [if_neg (by omega)]; exact Nat.zero_le _⟩
theorem g_NC_1 {n : Nat} {τ : Tb} {s a : Nat} (hn : n < 48) (hs : s < 4) (ha : a < n) (hip : g_ip τ a ≠ 1) (h3 : τ 6 a < 3) : g_NC n τ 6 s [a] (g_kn τ 6 [a]) :=
  ⟨hn, by decide, fun z => by omega, fun _ => hs, fun c hc => by rw [List.mem_singleton.mp hc]; exact ⟨ha, hip⟩, fun _ => ⟨a, rfl⟩, fun z => by omega, fun _ _ z => absurd rfl z, by show τ 6 a + 1 ≤ 3; omega⟩
theorem g_NC_2 {n : Nat} {τ : Tb} {k a b : Nat} (hn : n < 48) (hk : k = 3 ∨ k = 4) (ha : a < n) (hb : b < n) (hpa : g_ip τ a ≠ 1) (hpb : g_ip τ b ≠ 1) (hab : a ≠ b) (h3 : τ 6 a ≤ 3) (h4 : τ 6 b ≤ 3) : g_NC n τ k 0 [a, b] (g_kn τ k [a, b]) :=
  ⟨hn, by omega, fun z => by omega, fun z => by omega, fun c hc => by
    rcases List.mem_cons.mp hc with rfl | hc
    · exact ⟨ha, hpa⟩
    · rw [List.mem_singleton.mp hc]; exact ⟨hb, hpb⟩, fun z => by omega, fun _ => ⟨a, b, hab, rfl⟩, fun z1 z2 => by omega, by show max (τ 6 a) (τ 6 b) + (if k = 6 then 1 else 0) ≤ 3; rw [if_neg (by omega)]; omega⟩
theorem e_ip {n : Nat} {τ : Tb} {t : Nat} {x : Int32} (hwf : g_WF n τ) (ht : t < n) (hx : x = if g_ip τ t = 1 then nI (g_wh τ t) else -1) : (¬ x = -1) ↔ g_ip τ t = 1 := by
  rw [hx]
  by_cases h : g_ip τ t = 1
  · have q := ((hwf.2 t ht).2.2.2.2.2 h).2.1
    have := hwf.1
    rw [if_pos h]
    exact ⟨fun _ => h, fun _ => e_nm1 (by omega)⟩
  · rw [if_neg h]
    exact ⟨fun z => absurd rfl z, fun z => absurd z h⟩
theorem b2_iff {P Q : Prop} [Decidable P] [Decidable Q] (h : P ↔ Q) : b2 (decide P) = b2 (decide Q) := by rw [decide_eq_decide.mpr h]
abbrev cN (x : Int32) : Nat := x.toNatClampNeg
def k_leaf (n : Nat) (x : Int32) : Nat := if x < -2 ∨ ¬ x < nI 8 then 1 else if n = 48 then 2 else 0
def t_leaf (n : Nat) (τ : Tb) (x : Int32) : Tb := if x = -1 then g_new n τ 0 0 [] (g_kn τ 0 []) else if x = -2 then g_new n τ 1 0 [] (g_kn τ 1 []) else g_new n τ 2 (cN x) [] (g_kn τ 2 [])
def k_var (n : Nat) (x : Int32) : Nat := if x < 0 ∨ nI 4 ≤ x then 1 else if n = 48 then 2 else 0
def t_var (n : Nat) (τ : Tb) (x : Int32) : Tb := g_new n τ 5 (cN x) [] (g_kn τ 5 [])
def k_join (n : Nat) (τ : Tb) (a b : Int32) : Nat := if ¬ bT n a ∨ ¬ bT n b then 1 else if a = b ∨ g_ip τ (cN a) = 1 ∨ g_ip τ (cN b) = 1 then 2 else if n = 48 then 3 else 0
def t_join (n : Nat) (τ : Tb) (a b : Int32) (e : Bool) : Tb := g_new n τ (if e then 4 else 3) 0 [cN a, cN b] (g_kn τ (if e then 4 else 3) [cN a, cN b])
def k_knot (n : Nat) (τ : Tb) (v a : Int32) : Nat := if ¬ bT n a then 1 else if g_ip τ (cN a) = 1 then 2 else if v < 0 ∨ nI 4 ≤ v then 3 else if n = 48 ∨ 3 ≤ τ 6 (cN a) then 4 else 0
def t_knot (n : Nat) (τ : Tb) (v a : Int32) : Tb := g_new n τ 6 (cN v) [cN a] (g_kn τ 6 [cN a])
def k_fault (n : Nat) (x : Int32) : Nat := if bT n x then 0 else 1
noncomputable def k_type (n : Nat) (τ : Tb) (x p : Int32) : Nat := if ¬ bT n x ∨ p < 0 ∨ ¬ p ≤ nI 2 then 1 else if g_fo τ (cN x) ≠ 0 then 2 else 0
noncomputable def v_type (τ : Tb) (x p : Int32) : Int32 := if p = 0 then nI (if g_nu (g_T τ (cN x)) (cN x) = true then 1 else 0) else if p = nI 1 then nI (g_fi (g_T τ (cN x)) (cN x)) else nI (g_af (g_T τ (cN x)) (cN x))
theorem e_var4 {x : Int32} (h : ¬ (x < 0 ∨ nI 4 ≤ x)) : ∃ t, t < 4 ∧ x = nI t := by
  rcases pk_ix x (n := 4) (by decide) with q | q | q
  · exact absurd (Or.inl q) h
  · exact absurd (Or.inr q) h
  · exact q
set_option maxHeartbeats 4000000 in
set_option maxRecDepth 100000 in
theorem c_X7_leaf (ll : Launch) (hst : ll.stackTraces = false) (D : va_G) (ad ro : Nat → Nat) (c : Nat → ClassId) (Z : ZT) (L : LT) {n : Nat} {τ : Tb} {w : List Nat} {st : Int32} {tr : List Nat} (x : Int32) (hSD : g_SD n τ w st tr Z L) : cXI (S := ZT × LT) (SX := ZT × LT) ll yX7_leaf vsX7_leaf ({ frames := 7, cells := 2, slots := 12, locals := 105 } : Room) D (tysG c) [.ref (ad 0), .int (x)] (wd ad ro c Z L) (fun u => wd ad ro c u.1 u.2) (fun r u => k_leaf n x = 0 ∧ r = nI n ∧ g_SD (n + 1) (t_leaf n τ x) w st tr u.1 u.2) (fun u => wd ad ro c u.1 u.2) (fun E u => xk ["java/lang/IllegalArgumentException", "java/lang/UnsupportedOperationException"] (k_leaf n x) E ∧ g_SD n τ w st tr u.1 u.2) 2 12 := by
  refine cXI_start (cc := cX7_leaf) (maxL := 2) RX7 rfl (by decide +kernel) rfl (Nat.le_of_ble_eq_true rfl) hst ?_
  intro κ hlκ X hr E hR hn
  subst hlκ
  have C := X.1
  have hL : ∀ w ∈ u_ws RX7 TX7 7, w.before (ja κ) (js κ) = true := fun w h => C.t w (mX7_leaf_wsX70 w h)
  have f12 : (Cond.fieldLink RX7 12 "GuardedGrammar" (TX7 0).2.1 (TX7 0).2.2.1).before (ja κ) (js κ) = true := C.t (.fieldLink RX7 12 "GuardedGrammar" "terms" "LGuardedGrammar$Terms;") (mX7_leaf_o _ (by decide +kernel))
  show J D κ 0 0 0 [(0, .ref (ad 0)), (1, .int (x))] [] (wd ad ro c Z L)
  obtain ⟨hwf, hE, hz, hwd, h50, h47, htr, htl⟩ := id hSD
  refine j_iload_n C 0 1 dX7_leaf_0 rfl rfl ?_
  refine j_bipush C 1 (v := -2) dX7_leaf_1 rfl ?_
  refine j_icmp_lt C 3 12 dX7_leaf_3 (by decide) (fun h3 => ?_) (fun h3 => ?_)
  · exact j_throw0 X 12 E (ik := 61) (ic := 63) (cls := "java/lang/IllegalArgumentException") ix_IAE fx_IAE (C.t (.classLink RX7 61 "java/lang/IllegalArgumentException") (mX7_leaf_o _ (by decide +kernel))) (C.t (.initialized "java/lang/IllegalArgumentException") (mX7_leaf_o _ (by decide +kernel))) mX7_leaf_t63 ng_IAE gx_IAE dX7_leaf_12 dX7_leaf_15 dX7_leaf_16 dX7_leaf_19 (by rw [hR]; exact ⟨Nat.le_of_ble_eq_true rfl, Nat.le_of_ble_eq_true rfl⟩) (by rw [hR]; exact ⟨Nat.le_of_ble_eq_true rfl, Nat.le_of_ble_eq_true rfl⟩) (Nat.le_of_ble_eq_true rfl) (Nat.le_of_ble_eq_true rfl) (Z, L) ⟨⟨0, rfl, by unfold k_leaf; rw [if_pos (Or.inl h3)]⟩, hSD⟩ rfl
  · refine j_iload_n C 6 1 dX7_leaf_6 rfl rfl ?_
    refine j_bipush C 7 (v := nI 8) dX7_leaf_7 rfl ?_
    refine j_icmp_lt C 9 20 dX7_leaf_9 (by decide) (fun h9 => ?_) (fun h9 => ?_)
    · have h9x : x < nI 8 := h9
      refine j_aload_n C 20 0 dX7_leaf_20 rfl rfl ?_
      refine j_xcallV (mc := 1) (ms := 6) X 21 (c_X7_needRoom (jl κ) X.2.2.2.2 D ad ro c Z L n hz hwf.1) gX7_leaf_X7_needRoom rfl rfl rfl hd_X7_needRoom (by rw [hR]; exact ⟨Nat.le_of_ble_eq_true rfl, Nat.le_of_ble_eq_true rfl⟩) (ci := 7) rfl 0 (wd_o0 ad ro c Z L) rfl (Nat.le_of_ble_eq_true rfl) (by rw [hR]; exact ⟨Nat.le_of_ble_eq_true rfl, Nat.le_of_ble_eq_true rfl⟩) dX7_leaf_21 E ⟨Nat.le_of_ble_eq_true rfl, Nat.le_of_ble_eq_true rfl⟩ (fun E9 u9 h9 => ⟨(Z, L), ⟨⟨1, by rw [h9.1]; rfl, by unfold k_leaf; rw [if_neg (fun z => z.elim h3 (fun z => z h9x)), if_pos h9.2]⟩, hSD⟩, rfl⟩) (fun _ q21 => ?_)
      have hn48 : n < 48 := q21
      refine j_iload_n C 24 1 dX7_leaf_24 rfl rfl ?_
      refine j_iconst C 25 (v := -1) dX7_leaf_25 rfl ?_
      refine j_icmp_ne C 26 41 dX7_leaf_26 (by decide) (fun h26 => ?_) (fun h26 => ?_)
      · refine j_iload_n C 41 1 dX7_leaf_41 rfl rfl ?_
        refine j_bipush C 42 (v := -2) dX7_leaf_42 rfl ?_
        refine j_icmp_ne C 44 59 dX7_leaf_44 (by decide) (fun h44 => ?_) (fun h44 => ?_)
        · have hx8 : cN x < 8 ∧ x = nI (cN x) := by
            obtain ⟨t, ht, e⟩ := e_leaf h3 h9x h26 h44
            have e2 : cN x = t := by rw [e]; exact nI_clamp (by omega)
            rw [e2]; exact ⟨ht, e⟩
          refine j_aload_n C 59 0 dX7_leaf_59 rfl rfl ?_
          refine j_get C 60 (ci := 7) hL rfl 0 (wd_o0 ad ro c Z L) 0 (by decide) f12 rfl (v := .ref (ad 1)) rfl dX7_leaf_60 ?_
          refine j_iconst C 63 (v := nI 2) dX7_leaf_63 rfl ?_
          refine j_iload_n C 64 1 dX7_leaf_64 rfl rfl ?_
          refine j_iconst C 65 (v := -1) dX7_leaf_65 rfl ?_
          refine j_iconst C 66 (v := -1) dX7_leaf_66 rfl ?_
          refine j_callI (mc := 0) (ms := 0) C 67 (c_X4_add (jl κ) D ad ro c Z L 2 (cN x) [] x (-1) (-1) hwf hE hz (g_NC_0 hn48 (Or.inl (by decide)) (fun _ => hx8.1) (fun z => by cases z)) (fun _ => hx8.2) rfl rfl) gX7_leaf_X4_add rfl rfl rfl hd_X4_add (by rw [hR]; exact ⟨Nat.le_of_ble_eq_true rfl, Nat.le_of_ble_eq_true rfl⟩) (ci := 4) rfl 1 (wd_o1 ad ro c Z L) rfl (Nat.le_of_ble_eq_true rfl) (by rw [hR]; exact ⟨Nat.le_of_ble_eq_true rfl, Nat.le_of_ble_eq_true rfl⟩) dX7_leaf_67 (fun r67 Z67 q67 => ?_)
          refine j_eqi q67.1 ?_
          have hnew := g_SD_new hSD (g_WF_new hwf (g_NC_0 hn48 (Or.inl (by decide)) (fun _ => hx8.1) (fun z => by cases z))) q67.2.1 q67.2.2.1 q67.2.2.2
          exact j_xireti C hr E (Nat.le_of_ble_eq_true rfl) (Nat.le_of_ble_eq_true rfl) rfl (Z67, L) ⟨by unfold k_leaf; rw [if_neg (fun z => z.elim h3 (fun z => z h9x)), if_neg (by omega)], rfl, by unfold t_leaf; rw [if_neg h26, if_neg h44]; exact hnew⟩ rfl dX7_leaf_70
        · refine j_aload_n C 47 0 dX7_leaf_47 rfl rfl ?_
          refine j_get C 48 (ci := 7) hL rfl 0 (wd_o0 ad ro c Z L) 0 (by decide) f12 rfl (v := .ref (ad 1)) rfl dX7_leaf_48 ?_
          refine j_iconst C 51 (v := nI 1) dX7_leaf_51 rfl ?_
          refine j_iconst C 52 (v := nI 0) dX7_leaf_52 rfl ?_
          refine j_iconst C 53 (v := -1) dX7_leaf_53 rfl ?_
          refine j_iconst C 54 (v := -1) dX7_leaf_54 rfl ?_
          refine j_callI (mc := 0) (ms := 0) C 55 (c_X4_add (jl κ) D ad ro c Z L 1 0 [] (nI 0) (-1) (-1) hwf hE hz (g_NC_0 hn48 (Or.inl (by decide)) (fun z => by cases z) (fun z => by cases z)) (fun z => by omega) rfl rfl) gX7_leaf_X4_add rfl rfl rfl hd_X4_add (by rw [hR]; exact ⟨Nat.le_of_ble_eq_true rfl, Nat.le_of_ble_eq_true rfl⟩) (ci := 4) rfl 1 (wd_o1 ad ro c Z L) rfl (Nat.le_of_ble_eq_true rfl) (by rw [hR]; exact ⟨Nat.le_of_ble_eq_true rfl, Nat.le_of_ble_eq_true rfl⟩) dX7_leaf_55 (fun r55 Z55 q55 => ?_)
          refine j_eqi q55.1 ?_
          have hnew := g_SD_new hSD (g_WF_new hwf (g_NC_0 hn48 (Or.inl (by decide)) (fun z => by cases z) (fun z => by cases z))) q55.2.1 q55.2.2.1 q55.2.2.2
          exact j_xireti C hr E (Nat.le_of_ble_eq_true rfl) (Nat.le_of_ble_eq_true rfl) rfl (Z55, L) ⟨by unfold k_leaf; rw [if_neg (fun z => z.elim h3 (fun z => z h9x)), if_neg (by omega)], rfl, by unfold t_leaf; rw [if_neg h26, if_pos h44]; exact hnew⟩ rfl dX7_leaf_58
      · refine j_aload_n C 29 0 dX7_leaf_29 rfl rfl ?_
        refine j_get C 30 (ci := 7) hL rfl 0 (wd_o0 ad ro c Z L) 0 (by decide) f12 rfl (v := .ref (ad 1)) rfl dX7_leaf_30 ?_
        refine j_iconst C 33 (v := nI 0) dX7_leaf_33 rfl ?_
        refine j_iconst C 34 (v := nI 0) dX7_leaf_34 rfl ?_
        refine j_iconst C 35 (v := -1) dX7_leaf_35 rfl ?_
        refine j_iconst C 36 (v := -1) dX7_leaf_36 rfl ?_
        refine j_callI (mc := 0) (ms := 0) C 37 (c_X4_add (jl κ) D ad ro c Z L 0 0 [] (nI 0) (-1) (-1) hwf hE hz (g_NC_0 hn48 (Or.inl (by decide)) (fun z => by cases z) (fun z => by cases z)) (fun z => by omega) rfl rfl) gX7_leaf_X4_add rfl rfl rfl hd_X4_add (by rw [hR]; exact ⟨Nat.le_of_ble_eq_true rfl, Nat.le_of_ble_eq_true rfl⟩) (ci := 4) rfl 1 (wd_o1 ad ro c Z L) rfl (Nat.le_of_ble_eq_true rfl) (by rw [hR]; exact ⟨Nat.le_of_ble_eq_true rfl, Nat.le_of_ble_eq_true rfl⟩) dX7_leaf_37 (fun r37 Z37 q37 => ?_)
        refine j_eqi q37.1 ?_
        have hnew := g_SD_new hSD (g_WF_new hwf (g_NC_0 hn48 (Or.inl (by decide)) (fun z => by cases z) (fun z => by cases z))) q37.2.1 q37.2.2.1 q37.2.2.2
        exact j_xireti C hr E (Nat.le_of_ble_eq_true rfl) (Nat.le_of_ble_eq_true rfl) rfl (Z37, L) ⟨by unfold k_leaf; rw [if_neg (fun z => z.elim h3 (fun z => z h9x)), if_neg (by omega)], rfl, by unfold t_leaf; rw [if_pos h26]; exact hnew⟩ rfl dX7_leaf_40
    · exact j_throw0 X 12 E (ik := 61) (ic := 63) (cls := "java/lang/IllegalArgumentException") ix_IAE fx_IAE (C.t (.classLink RX7 61 "java/lang/IllegalArgumentException") (mX7_leaf_o _ (by decide +kernel))) (C.t (.initialized "java/lang/IllegalArgumentException") (mX7_leaf_o _ (by decide +kernel))) mX7_leaf_t63 ng_IAE gx_IAE dX7_leaf_12 dX7_leaf_15 dX7_leaf_16 dX7_leaf_19 (by rw [hR]; exact ⟨Nat.le_of_ble_eq_true rfl, Nat.le_of_ble_eq_true rfl⟩) (by rw [hR]; exact ⟨Nat.le_of_ble_eq_true rfl, Nat.le_of_ble_eq_true rfl⟩) (Nat.le_of_ble_eq_true rfl) (Nat.le_of_ble_eq_true rfl) (Z, L) ⟨⟨0, rfl, by unfold k_leaf; rw [if_pos (Or.inr h9)]⟩, hSD⟩ rfl
set_option maxHeartbeats 4000000 in
set_option maxRecDepth 100000 in
theorem c_X7_variable (ll : Launch) (hst : ll.stackTraces = false) (D : va_G) (ad ro : Nat → Nat) (c : Nat → ClassId) (Z : ZT) (L : LT) {n : Nat} {τ : Tb} {w : List Nat} {st : Int32} {tr : List Nat} (x : Int32) (hSD : g_SD n τ w st tr Z L) : cXI (S := ZT × LT) (SX := ZT × LT) ll yX7_variable vsX7_variable ({ frames := 7, cells := 2, slots := 12, locals := 106 } : Room) D (tysG c) [.ref (ad 0), .int (x)] (wd ad ro c Z L) (fun u => wd ad ro c u.1 u.2) (fun r u => k_var n x = 0 ∧ r = nI n ∧ g_SD (n + 1) (t_var n τ x) w st tr u.1 u.2) (fun u => wd ad ro c u.1 u.2) (fun E u => xk ["java/lang/IllegalArgumentException", "java/lang/UnsupportedOperationException"] (k_var n x) E ∧ g_SD n τ w st tr u.1 u.2) 2 12 := by
  refine cXI_start (cc := cX7_variable) (maxL := 2) RX7 rfl (by decide +kernel) rfl (Nat.le_of_ble_eq_true rfl) hst ?_
  intro κ hlκ X hr E hR hn
  subst hlκ
  have C := X.1
  have hL : ∀ w ∈ u_ws RX7 TX7 7, w.before (ja κ) (js κ) = true := fun w h => C.t w (mX7_variable_wsX70 w h)
  have f12 : (Cond.fieldLink RX7 12 "GuardedGrammar" (TX7 0).2.1 (TX7 0).2.2.1).before (ja κ) (js κ) = true := C.t (.fieldLink RX7 12 "GuardedGrammar" "terms" "LGuardedGrammar$Terms;") (mX7_variable_o _ (by decide +kernel))
  show J D κ 0 0 0 [(0, .ref (ad 0)), (1, .int (x))] [] (wd ad ro c Z L)
  obtain ⟨hwf, hE, hz, hwd, h50, h47, htr, htl⟩ := id hSD
  refine j_aload_n C 0 0 dX7_variable_0 rfl rfl ?_
  refine j_iload_n C 1 1 dX7_variable_1 rfl rfl ?_
  refine j_xcallV (mc := 1) (ms := 6) X 2 (c_X7_needVariable (jl κ) X.2.2.2.2 D ad ro c Z L x) gX7_variable_X7_needVariable rfl rfl rfl hd_X7_needVariable (by rw [hR]; exact ⟨Nat.le_of_ble_eq_true rfl, Nat.le_of_ble_eq_true rfl⟩) (ci := 7) rfl 0 (wd_o0 ad ro c Z L) rfl (Nat.le_of_ble_eq_true rfl) (by rw [hR]; exact ⟨Nat.le_of_ble_eq_true rfl, Nat.le_of_ble_eq_true rfl⟩) dX7_variable_2 E ⟨Nat.le_of_ble_eq_true rfl, Nat.le_of_ble_eq_true rfl⟩ (fun E9 u9 h9 => ⟨(Z, L), ⟨⟨0, by rw [h9.1]; rfl, by unfold k_var; rw [if_pos h9.2]⟩, hSD⟩, rfl⟩) (fun _ q2 => ?_)
  obtain ⟨v, hv4, rfl⟩ := e_var4 q2
  have hvv : ¬ (nI v < 0 ∨ nI 4 ≤ nI v) := q2
  have hcv : cN (nI v) = v := nI_clamp (by omega)
  refine j_aload_n C 5 0 dX7_variable_5 rfl rfl ?_
  refine j_xcallV (mc := 1) (ms := 6) X 6 (c_X7_needRoom (jl κ) X.2.2.2.2 D ad ro c Z L n hz hwf.1) gX7_variable_X7_needRoom rfl rfl rfl hd_X7_needRoom (by rw [hR]; exact ⟨Nat.le_of_ble_eq_true rfl, Nat.le_of_ble_eq_true rfl⟩) (ci := 7) rfl 0 (wd_o0 ad ro c Z L) rfl (Nat.le_of_ble_eq_true rfl) (by rw [hR]; exact ⟨Nat.le_of_ble_eq_true rfl, Nat.le_of_ble_eq_true rfl⟩) dX7_variable_6 E ⟨Nat.le_of_ble_eq_true rfl, Nat.le_of_ble_eq_true rfl⟩ (fun E9 u9 h9 => ⟨(Z, L), ⟨⟨1, by rw [h9.1]; rfl, by unfold k_var; rw [if_neg hvv, if_pos h9.2]⟩, hSD⟩, rfl⟩) (fun _ q6 => ?_)
  have hn48 : n < 48 := q6
  refine j_aload_n C 9 0 dX7_variable_9 rfl rfl ?_
  refine j_get C 10 (ci := 7) hL rfl 0 (wd_o0 ad ro c Z L) 0 (by decide) f12 rfl (v := .ref (ad 1)) rfl dX7_variable_10 ?_
  refine j_iconst C 13 (v := nI 5) dX7_variable_13 rfl ?_
  refine j_iload_n C 14 1 dX7_variable_14 rfl rfl ?_
  refine j_iconst C 15 (v := -1) dX7_variable_15 rfl ?_
  refine j_iconst C 16 (v := -1) dX7_variable_16 rfl ?_
  refine j_callI (mc := 0) (ms := 0) C 17 (c_X4_add (jl κ) D ad ro c Z L 5 v [] (nI v) (-1) (-1) hwf hE hz (g_NC_0 hn48 (Or.inr rfl) (fun z => by cases z) (fun _ => hv4)) (fun _ => rfl) rfl rfl) gX7_variable_X4_add rfl rfl rfl hd_X4_add (by rw [hR]; exact ⟨Nat.le_of_ble_eq_true rfl, Nat.le_of_ble_eq_true rfl⟩) (ci := 4) rfl 1 (wd_o1 ad ro c Z L) rfl (Nat.le_of_ble_eq_true rfl) (by rw [hR]; exact ⟨Nat.le_of_ble_eq_true rfl, Nat.le_of_ble_eq_true rfl⟩) dX7_variable_17 (fun r17 Z17 q17 => ?_)
  refine j_eqi q17.1 ?_
  have hnew := g_SD_new hSD (g_WF_new hwf (g_NC_0 hn48 (Or.inr rfl) (fun z => by cases z) (fun _ => hv4))) q17.2.1 q17.2.2.1 q17.2.2.2
  exact j_xireti C hr E (Nat.le_of_ble_eq_true rfl) (Nat.le_of_ble_eq_true rfl) rfl (Z17, L) ⟨by unfold k_var; rw [if_neg hvv, if_neg (by omega)], rfl, by unfold t_var; rw [hcv]; exact hnew⟩ rfl dX7_variable_20
set_option maxHeartbeats 4000000 in
set_option maxRecDepth 100000 in
theorem c_X7_join (ll : Launch) (hst : ll.stackTraces = false) (D : va_G) (ad ro : Nat → Nat) (c : Nat → ClassId) (Z : ZT) (L : LT) {n : Nat} {τ : Tb} {w : List Nat} {st : Int32} {tr : List Nat} (a b : Int32) (e : Bool) (hSD : g_SD n τ w st tr Z L) : cXI (S := ZT × LT) (SX := ZT × LT) ll yX7_join vsX7_join ({ frames := 7, cells := 4, slots := 24, locals := 106 } : Room) D (tysG c) [.ref (ad 0), .int (a), .int (b), .int (b2 (e))] (wd ad ro c Z L) (fun u => wd ad ro c u.1 u.2) (fun r u => k_join n τ a b = 0 ∧ r = nI n ∧ g_SD (n + 1) (t_join n τ a b e) w st tr u.1 u.2) (fun u => wd ad ro c u.1 u.2) (fun E u => xk ["java/lang/IndexOutOfBoundsException", "java/lang/IllegalStateException", "java/lang/UnsupportedOperationException"] (k_join n τ a b) E ∧ g_SD n τ w st tr u.1 u.2) 4 24 := by
  refine cXI_start (cc := cX7_join) (maxL := 4) RX7 rfl (by decide +kernel) rfl (Nat.le_of_ble_eq_true rfl) hst ?_
  intro κ hlκ X hr E hR hn
  subst hlκ
  have C := X.1
  have hL : ∀ w ∈ u_ws RX7 TX7 7, w.before (ja κ) (js κ) = true := fun w h => C.t w (mX7_join_wsX70 w h)
  have f12 : (Cond.fieldLink RX7 12 "GuardedGrammar" (TX7 0).2.1 (TX7 0).2.2.1).before (ja κ) (js κ) = true := C.t (.fieldLink RX7 12 "GuardedGrammar" "terms" "LGuardedGrammar$Terms;") (mX7_join_o _ (by decide +kernel))
  show J D κ 0 0 0 [(0, .ref (ad 0)), (1, .int (a)), (2, .int (b)), (3, .int (b2 (e)))] [] (wd ad ro c Z L)
  obtain ⟨hwf, hE, hz, hwd, h50, h47, htr, htl⟩ := id hSD
  have h48n := hwf.1
  cases e with
  | false =>
    refine j_aload_n C 0 0 dX7_join_0 rfl rfl ?_
    refine j_iload_n C 1 1 dX7_join_1 rfl rfl ?_
    refine j_xcallV (mc := 1) (ms := 6) X 2 (c_X7_needTerm (jl κ) X.2.2.2.2 D ad ro c Z L n a hz) gX7_join_X7_needTerm rfl rfl rfl hd_X7_needTerm (by rw [hR]; exact ⟨Nat.le_of_ble_eq_true rfl, Nat.le_of_ble_eq_true rfl⟩) (ci := 7) rfl 0 (wd_o0 ad ro c Z L) rfl (Nat.le_of_ble_eq_true rfl) (by rw [hR]; exact ⟨Nat.le_of_ble_eq_true rfl, Nat.le_of_ble_eq_true rfl⟩) dX7_join_2 E ⟨Nat.le_of_ble_eq_true rfl, Nat.le_of_ble_eq_true rfl⟩ (fun E9 u9 h9 => ⟨(Z, L), ⟨⟨0, by rw [h9.1]; rfl, by unfold k_join; rw [if_pos (Or.inl h9.2)]⟩, hSD⟩, rfl⟩) (fun _ q2 => ?_)
    obtain ⟨p, hpn, rfl⟩ := (bT_iff hwf.1).mp q2
    have hbp : bT n (nI p) := q2
    have hcp : cN (nI p) = p := nI_clamp (by have := hwf.1; omega)
    refine j_aload_n C 5 0 dX7_join_5 rfl rfl ?_
    refine j_iload_n C 6 2 dX7_join_6 rfl rfl ?_
    refine j_xcallV (mc := 1) (ms := 6) X 7 (c_X7_needTerm (jl κ) X.2.2.2.2 D ad ro c Z L n b hz) gX7_join_X7_needTerm rfl rfl rfl hd_X7_needTerm (by rw [hR]; exact ⟨Nat.le_of_ble_eq_true rfl, Nat.le_of_ble_eq_true rfl⟩) (ci := 7) rfl 0 (wd_o0 ad ro c Z L) rfl (Nat.le_of_ble_eq_true rfl) (by rw [hR]; exact ⟨Nat.le_of_ble_eq_true rfl, Nat.le_of_ble_eq_true rfl⟩) dX7_join_7 E ⟨Nat.le_of_ble_eq_true rfl, Nat.le_of_ble_eq_true rfl⟩ (fun E9 u9 h9 => ⟨(Z, L), ⟨⟨0, by rw [h9.1]; rfl, by unfold k_join; rw [if_pos (Or.inr h9.2)]⟩, hSD⟩, rfl⟩) (fun _ q7 => ?_)
    obtain ⟨q, hqn, rfl⟩ := (bT_iff hwf.1).mp q7
    have hbq : bT n (nI q) := q7
    have hcq : cN (nI q) = q := nI_clamp (by have := hwf.1; omega)
    refine j_iload_n C 10 1 dX7_join_10 rfl rfl ?_
    refine j_iload_n C 11 2 dX7_join_11 rfl rfl ?_
    refine j_icmp_eq_n C 12 37 (by omega) (by omega) dX7_join_12 (by decide) (fun h12 => ?_) (fun h12 => ?_)
    · exact j_throw0 X 37 E (ik := 82) (ic := 84) (cls := "java/lang/IllegalStateException") ix_ISE fx_ISE (C.t (.classLink RX7 82 "java/lang/IllegalStateException") (mX7_join_o _ (by decide +kernel))) (C.t (.initialized "java/lang/IllegalStateException") (mX7_join_o _ (by decide +kernel))) mX7_join_t84 ng_ISE gx_ISE dX7_join_37 dX7_join_40 dX7_join_41 dX7_join_44 (by rw [hR]; exact ⟨Nat.le_of_ble_eq_true rfl, Nat.le_of_ble_eq_true rfl⟩) (by rw [hR]; exact ⟨Nat.le_of_ble_eq_true rfl, Nat.le_of_ble_eq_true rfl⟩) (Nat.le_of_ble_eq_true rfl) (Nat.le_of_ble_eq_true rfl) (Z, L) ⟨⟨1, rfl, by unfold k_join; rw [if_neg (fun z => z.elim (fun z => z hbp) (fun z => z hbq)), if_pos (Or.inl (by rw [h12]))]⟩, hSD⟩ rfl
    · refine j_aload_n C 15 0 dX7_join_15 rfl rfl ?_
      refine j_get C 16 (ci := 7) hL rfl 0 (wd_o0 ad ro c Z L) 0 (by decide) f12 rfl (v := .ref (ad 1)) rfl dX7_join_16 ?_
      refine j_iload_n C 19 1 dX7_join_19 rfl rfl ?_
      refine j_callI (mc := 0) (ms := 0) C 20 (c_X4_isPart (jl κ) D ad ro c Z L p (by have := hwf.1; omega)) gX7_join_X4_isPart rfl rfl rfl hd_X4_isPart (by rw [hR]; exact ⟨Nat.le_of_ble_eq_true rfl, Nat.le_of_ble_eq_true rfl⟩) (ci := 4) rfl 1 (wd_o1 ad ro c Z L) rfl (Nat.le_of_ble_eq_true rfl) (by rw [hR]; exact ⟨Nat.le_of_ble_eq_true rfl, Nat.le_of_ble_eq_true rfl⟩) dX7_join_20 (fun r20 _ e20 => ?_)
      refine j_eqi (e20.trans (b2_iff (e_ip hwf hpn (hE _ hpn).2.2.2.2.1))) ?_
      refine j_if_ne_b C 23 37 dX7_join_23 (by decide) (fun h23 => ?_) (fun h23 => ?_)
      · exact j_throw0 X 37 E (ik := 82) (ic := 84) (cls := "java/lang/IllegalStateException") ix_ISE fx_ISE (C.t (.classLink RX7 82 "java/lang/IllegalStateException") (mX7_join_o _ (by decide +kernel))) (C.t (.initialized "java/lang/IllegalStateException") (mX7_join_o _ (by decide +kernel))) mX7_join_t84 ng_ISE gx_ISE dX7_join_37 dX7_join_40 dX7_join_41 dX7_join_44 (by rw [hR]; exact ⟨Nat.le_of_ble_eq_true rfl, Nat.le_of_ble_eq_true rfl⟩) (by rw [hR]; exact ⟨Nat.le_of_ble_eq_true rfl, Nat.le_of_ble_eq_true rfl⟩) (Nat.le_of_ble_eq_true rfl) (Nat.le_of_ble_eq_true rfl) (Z, L) ⟨⟨1, rfl, by unfold k_join; rw [if_neg (fun z => z.elim (fun z => z hbp) (fun z => z hbq)), if_pos (Or.inr (Or.inl (by rw [hcp]; exact of_decide_eq_true h23)))]⟩, hSD⟩ rfl
      · refine j_aload_n C 26 0 dX7_join_26 rfl rfl ?_
        refine j_get C 27 (ci := 7) hL rfl 0 (wd_o0 ad ro c Z L) 0 (by decide) f12 rfl (v := .ref (ad 1)) rfl dX7_join_27 ?_
        refine j_iload_n C 30 2 dX7_join_30 rfl rfl ?_
        refine j_callI (mc := 0) (ms := 0) C 31 (c_X4_isPart (jl κ) D ad ro c Z L q (by have := hwf.1; omega)) gX7_join_X4_isPart rfl rfl rfl hd_X4_isPart (by rw [hR]; exact ⟨Nat.le_of_ble_eq_true rfl, Nat.le_of_ble_eq_true rfl⟩) (ci := 4) rfl 1 (wd_o1 ad ro c Z L) rfl (Nat.le_of_ble_eq_true rfl) (by rw [hR]; exact ⟨Nat.le_of_ble_eq_true rfl, Nat.le_of_ble_eq_true rfl⟩) dX7_join_31 (fun r31 _ e31 => ?_)
        refine j_eqi (e31.trans (b2_iff (e_ip hwf hqn (hE _ hqn).2.2.2.2.1))) ?_
        refine j_if_eq_b C 34 45 dX7_join_34 (by decide) (fun h34 => ?_) (fun h34 => ?_)
        · have hnp : ¬ (nI p = nI q ∨ g_ip τ (cN (nI p)) = 1 ∨ g_ip τ (cN (nI q)) = 1) := by
            rw [hcp, hcq]
            rintro (z | z | z)
            · exact h12 ((nI_eq (by omega) (by omega)).mp z)
            · exact of_decide_eq_false h23 z
            · exact of_decide_eq_false h34 z
          refine j_aload_n C 45 0 dX7_join_45 rfl rfl ?_
          refine j_xcallV (mc := 1) (ms := 6) X 46 (c_X7_needRoom (jl κ) X.2.2.2.2 D ad ro c Z L n hz hwf.1) gX7_join_X7_needRoom rfl rfl rfl hd_X7_needRoom (by rw [hR]; exact ⟨Nat.le_of_ble_eq_true rfl, Nat.le_of_ble_eq_true rfl⟩) (ci := 7) rfl 0 (wd_o0 ad ro c Z L) rfl (Nat.le_of_ble_eq_true rfl) (by rw [hR]; exact ⟨Nat.le_of_ble_eq_true rfl, Nat.le_of_ble_eq_true rfl⟩) dX7_join_46 E ⟨Nat.le_of_ble_eq_true rfl, Nat.le_of_ble_eq_true rfl⟩ (fun E9 u9 h9 => ⟨(Z, L), ⟨⟨2, by rw [h9.1]; rfl, by unfold k_join; rw [if_neg (fun z => z.elim (fun z => z hbp) (fun z => z hbq)), if_neg hnp, if_pos h9.2]⟩, hSD⟩, rfl⟩) (fun _ q46 => ?_)
          have hn48 : n < 48 := q46
          refine j_aload_n C 49 0 dX7_join_49 rfl rfl ?_
          refine j_get C 50 (ci := 7) hL rfl 0 (wd_o0 ad ro c Z L) 0 (by decide) f12 rfl (v := .ref (ad 1)) rfl dX7_join_50 ?_
          refine j_iload_n C 53 3 dX7_join_53 rfl rfl ?_
          refine j_if_eq_b C 54 (b := false) 61 dX7_join_54 (by decide) (fun _ => ?_) (fun h => by cases h)
          refine j_iconst C 61 (v := nI 3) dX7_join_61 rfl ?_
          refine j_iconst C 62 (v := nI 0) dX7_join_62 rfl ?_
          refine j_iload_n C 63 1 dX7_join_63 rfl rfl ?_
          refine j_iload_n C 64 2 dX7_join_64 rfl rfl ?_
          refine j_callI (mc := 0) (ms := 0) C 65 (c_X4_add (jl κ) D ad ro c Z L 3 0 [p, q] (nI 0) (nI p) (nI q) hwf hE hz (g_NC_2 hn48 (by decide) hpn hqn (of_decide_eq_false h23) (of_decide_eq_false h34) h12 (hE p hpn).2.2.2.2.2.2 (hE q hqn).2.2.2.2.2.2) (fun z => by omega) rfl rfl) gX7_join_X4_add rfl rfl rfl hd_X4_add (by rw [hR]; exact ⟨Nat.le_of_ble_eq_true rfl, Nat.le_of_ble_eq_true rfl⟩) (ci := 4) rfl 1 (wd_o1 ad ro c Z L) rfl (Nat.le_of_ble_eq_true rfl) (by rw [hR]; exact ⟨Nat.le_of_ble_eq_true rfl, Nat.le_of_ble_eq_true rfl⟩) dX7_join_65 (fun r65 Z65 q65 => ?_)
          refine j_eqi q65.1 ?_
          have hnew := g_SD_new hSD (g_WF_new hwf (g_NC_2 hn48 (by decide) hpn hqn (of_decide_eq_false h23) (of_decide_eq_false h34) h12 (hE p hpn).2.2.2.2.2.2 (hE q hqn).2.2.2.2.2.2)) q65.2.1 q65.2.2.1 q65.2.2.2
          exact j_xireti C hr E (Nat.le_of_ble_eq_true rfl) (Nat.le_of_ble_eq_true rfl) rfl (Z65, L) ⟨by unfold k_join; rw [if_neg (fun z => z.elim (fun z => z hbp) (fun z => z hbq)), if_neg hnp, if_neg (by omega)], rfl, by unfold t_join; rw [hcp, hcq]; exact hnew⟩ rfl dX7_join_68
        · exact j_throw0 X 37 E (ik := 82) (ic := 84) (cls := "java/lang/IllegalStateException") ix_ISE fx_ISE (C.t (.classLink RX7 82 "java/lang/IllegalStateException") (mX7_join_o _ (by decide +kernel))) (C.t (.initialized "java/lang/IllegalStateException") (mX7_join_o _ (by decide +kernel))) mX7_join_t84 ng_ISE gx_ISE dX7_join_37 dX7_join_40 dX7_join_41 dX7_join_44 (by rw [hR]; exact ⟨Nat.le_of_ble_eq_true rfl, Nat.le_of_ble_eq_true rfl⟩) (by rw [hR]; exact ⟨Nat.le_of_ble_eq_true rfl, Nat.le_of_ble_eq_true rfl⟩) (Nat.le_of_ble_eq_true rfl) (Nat.le_of_ble_eq_true rfl) (Z, L) ⟨⟨1, rfl, by unfold k_join; rw [if_neg (fun z => z.elim (fun z => z hbp) (fun z => z hbq)), if_pos (Or.inr (Or.inr (by rw [hcq]; exact of_decide_eq_true h34)))]⟩, hSD⟩ rfl
  | true =>
    refine j_aload_n C 0 0 dX7_join_0 rfl rfl ?_
    refine j_iload_n C 1 1 dX7_join_1 rfl rfl ?_
    refine j_xcallV (mc := 1) (ms := 6) X 2 (c_X7_needTerm (jl κ) X.2.2.2.2 D ad ro c Z L n a hz) gX7_join_X7_needTerm rfl rfl rfl hd_X7_needTerm (by rw [hR]; exact ⟨Nat.le_of_ble_eq_true rfl, Nat.le_of_ble_eq_true rfl⟩) (ci := 7) rfl 0 (wd_o0 ad ro c Z L) rfl (Nat.le_of_ble_eq_true rfl) (by rw [hR]; exact ⟨Nat.le_of_ble_eq_true rfl, Nat.le_of_ble_eq_true rfl⟩) dX7_join_2 E ⟨Nat.le_of_ble_eq_true rfl, Nat.le_of_ble_eq_true rfl⟩ (fun E9 u9 h9 => ⟨(Z, L), ⟨⟨0, by rw [h9.1]; rfl, by unfold k_join; rw [if_pos (Or.inl h9.2)]⟩, hSD⟩, rfl⟩) (fun _ q2 => ?_)
    obtain ⟨p, hpn, rfl⟩ := (bT_iff hwf.1).mp q2
    have hbp : bT n (nI p) := q2
    have hcp : cN (nI p) = p := nI_clamp (by have := hwf.1; omega)
    refine j_aload_n C 5 0 dX7_join_5 rfl rfl ?_
    refine j_iload_n C 6 2 dX7_join_6 rfl rfl ?_
    refine j_xcallV (mc := 1) (ms := 6) X 7 (c_X7_needTerm (jl κ) X.2.2.2.2 D ad ro c Z L n b hz) gX7_join_X7_needTerm rfl rfl rfl hd_X7_needTerm (by rw [hR]; exact ⟨Nat.le_of_ble_eq_true rfl, Nat.le_of_ble_eq_true rfl⟩) (ci := 7) rfl 0 (wd_o0 ad ro c Z L) rfl (Nat.le_of_ble_eq_true rfl) (by rw [hR]; exact ⟨Nat.le_of_ble_eq_true rfl, Nat.le_of_ble_eq_true rfl⟩) dX7_join_7 E ⟨Nat.le_of_ble_eq_true rfl, Nat.le_of_ble_eq_true rfl⟩ (fun E9 u9 h9 => ⟨(Z, L), ⟨⟨0, by rw [h9.1]; rfl, by unfold k_join; rw [if_pos (Or.inr h9.2)]⟩, hSD⟩, rfl⟩) (fun _ q7 => ?_)
    obtain ⟨q, hqn, rfl⟩ := (bT_iff hwf.1).mp q7
    have hbq : bT n (nI q) := q7
    have hcq : cN (nI q) = q := nI_clamp (by have := hwf.1; omega)
    refine j_iload_n C 10 1 dX7_join_10 rfl rfl ?_
    refine j_iload_n C 11 2 dX7_join_11 rfl rfl ?_
    refine j_icmp_eq_n C 12 37 (by omega) (by omega) dX7_join_12 (by decide) (fun h12 => ?_) (fun h12 => ?_)
    · exact j_throw0 X 37 E (ik := 82) (ic := 84) (cls := "java/lang/IllegalStateException") ix_ISE fx_ISE (C.t (.classLink RX7 82 "java/lang/IllegalStateException") (mX7_join_o _ (by decide +kernel))) (C.t (.initialized "java/lang/IllegalStateException") (mX7_join_o _ (by decide +kernel))) mX7_join_t84 ng_ISE gx_ISE dX7_join_37 dX7_join_40 dX7_join_41 dX7_join_44 (by rw [hR]; exact ⟨Nat.le_of_ble_eq_true rfl, Nat.le_of_ble_eq_true rfl⟩) (by rw [hR]; exact ⟨Nat.le_of_ble_eq_true rfl, Nat.le_of_ble_eq_true rfl⟩) (Nat.le_of_ble_eq_true rfl) (Nat.le_of_ble_eq_true rfl) (Z, L) ⟨⟨1, rfl, by unfold k_join; rw [if_neg (fun z => z.elim (fun z => z hbp) (fun z => z hbq)), if_pos (Or.inl (by rw [h12]))]⟩, hSD⟩ rfl
    · refine j_aload_n C 15 0 dX7_join_15 rfl rfl ?_
      refine j_get C 16 (ci := 7) hL rfl 0 (wd_o0 ad ro c Z L) 0 (by decide) f12 rfl (v := .ref (ad 1)) rfl dX7_join_16 ?_
      refine j_iload_n C 19 1 dX7_join_19 rfl rfl ?_
      refine j_callI (mc := 0) (ms := 0) C 20 (c_X4_isPart (jl κ) D ad ro c Z L p (by have := hwf.1; omega)) gX7_join_X4_isPart rfl rfl rfl hd_X4_isPart (by rw [hR]; exact ⟨Nat.le_of_ble_eq_true rfl, Nat.le_of_ble_eq_true rfl⟩) (ci := 4) rfl 1 (wd_o1 ad ro c Z L) rfl (Nat.le_of_ble_eq_true rfl) (by rw [hR]; exact ⟨Nat.le_of_ble_eq_true rfl, Nat.le_of_ble_eq_true rfl⟩) dX7_join_20 (fun r20 _ e20 => ?_)
      refine j_eqi (e20.trans (b2_iff (e_ip hwf hpn (hE _ hpn).2.2.2.2.1))) ?_
      refine j_if_ne_b C 23 37 dX7_join_23 (by decide) (fun h23 => ?_) (fun h23 => ?_)
      · exact j_throw0 X 37 E (ik := 82) (ic := 84) (cls := "java/lang/IllegalStateException") ix_ISE fx_ISE (C.t (.classLink RX7 82 "java/lang/IllegalStateException") (mX7_join_o _ (by decide +kernel))) (C.t (.initialized "java/lang/IllegalStateException") (mX7_join_o _ (by decide +kernel))) mX7_join_t84 ng_ISE gx_ISE dX7_join_37 dX7_join_40 dX7_join_41 dX7_join_44 (by rw [hR]; exact ⟨Nat.le_of_ble_eq_true rfl, Nat.le_of_ble_eq_true rfl⟩) (by rw [hR]; exact ⟨Nat.le_of_ble_eq_true rfl, Nat.le_of_ble_eq_true rfl⟩) (Nat.le_of_ble_eq_true rfl) (Nat.le_of_ble_eq_true rfl) (Z, L) ⟨⟨1, rfl, by unfold k_join; rw [if_neg (fun z => z.elim (fun z => z hbp) (fun z => z hbq)), if_pos (Or.inr (Or.inl (by rw [hcp]; exact of_decide_eq_true h23)))]⟩, hSD⟩ rfl
      · refine j_aload_n C 26 0 dX7_join_26 rfl rfl ?_
        refine j_get C 27 (ci := 7) hL rfl 0 (wd_o0 ad ro c Z L) 0 (by decide) f12 rfl (v := .ref (ad 1)) rfl dX7_join_27 ?_
        refine j_iload_n C 30 2 dX7_join_30 rfl rfl ?_
        refine j_callI (mc := 0) (ms := 0) C 31 (c_X4_isPart (jl κ) D ad ro c Z L q (by have := hwf.1; omega)) gX7_join_X4_isPart rfl rfl rfl hd_X4_isPart (by rw [hR]; exact ⟨Nat.le_of_ble_eq_true rfl, Nat.le_of_ble_eq_true rfl⟩) (ci := 4) rfl 1 (wd_o1 ad ro c Z L) rfl (Nat.le_of_ble_eq_true rfl) (by rw [hR]; exact ⟨Nat.le_of_ble_eq_true rfl, Nat.le_of_ble_eq_true rfl⟩) dX7_join_31 (fun r31 _ e31 => ?_)
        refine j_eqi (e31.trans (b2_iff (e_ip hwf hqn (hE _ hqn).2.2.2.2.1))) ?_
        refine j_if_eq_b C 34 45 dX7_join_34 (by decide) (fun h34 => ?_) (fun h34 => ?_)
        · have hnp : ¬ (nI p = nI q ∨ g_ip τ (cN (nI p)) = 1 ∨ g_ip τ (cN (nI q)) = 1) := by
            rw [hcp, hcq]
            rintro (z | z | z)
            · exact h12 ((nI_eq (by omega) (by omega)).mp z)
            · exact of_decide_eq_false h23 z
            · exact of_decide_eq_false h34 z
          refine j_aload_n C 45 0 dX7_join_45 rfl rfl ?_
          refine j_xcallV (mc := 1) (ms := 6) X 46 (c_X7_needRoom (jl κ) X.2.2.2.2 D ad ro c Z L n hz hwf.1) gX7_join_X7_needRoom rfl rfl rfl hd_X7_needRoom (by rw [hR]; exact ⟨Nat.le_of_ble_eq_true rfl, Nat.le_of_ble_eq_true rfl⟩) (ci := 7) rfl 0 (wd_o0 ad ro c Z L) rfl (Nat.le_of_ble_eq_true rfl) (by rw [hR]; exact ⟨Nat.le_of_ble_eq_true rfl, Nat.le_of_ble_eq_true rfl⟩) dX7_join_46 E ⟨Nat.le_of_ble_eq_true rfl, Nat.le_of_ble_eq_true rfl⟩ (fun E9 u9 h9 => ⟨(Z, L), ⟨⟨2, by rw [h9.1]; rfl, by unfold k_join; rw [if_neg (fun z => z.elim (fun z => z hbp) (fun z => z hbq)), if_neg hnp, if_pos h9.2]⟩, hSD⟩, rfl⟩) (fun _ q46 => ?_)
          have hn48 : n < 48 := q46
          refine j_aload_n C 49 0 dX7_join_49 rfl rfl ?_
          refine j_get C 50 (ci := 7) hL rfl 0 (wd_o0 ad ro c Z L) 0 (by decide) f12 rfl (v := .ref (ad 1)) rfl dX7_join_50 ?_
          refine j_iload_n C 53 3 dX7_join_53 rfl rfl ?_
          refine j_if_eq_b C 54 (b := true) 61 dX7_join_54 (by decide) (fun h => by cases h) (fun _ => ?_)
          refine j_iconst C 57 (v := nI 4) dX7_join_57 rfl ?_
          refine j_goto C 58 62 dX7_join_58 (by decide) ?_
          refine j_iconst C 62 (v := nI 0) dX7_join_62 rfl ?_
          refine j_iload_n C 63 1 dX7_join_63 rfl rfl ?_
          refine j_iload_n C 64 2 dX7_join_64 rfl rfl ?_
          refine j_callI (mc := 0) (ms := 0) C 65 (c_X4_add (jl κ) D ad ro c Z L 4 0 [p, q] (nI 0) (nI p) (nI q) hwf hE hz (g_NC_2 hn48 (by decide) hpn hqn (of_decide_eq_false h23) (of_decide_eq_false h34) h12 (hE p hpn).2.2.2.2.2.2 (hE q hqn).2.2.2.2.2.2) (fun z => by omega) rfl rfl) gX7_join_X4_add rfl rfl rfl hd_X4_add (by rw [hR]; exact ⟨Nat.le_of_ble_eq_true rfl, Nat.le_of_ble_eq_true rfl⟩) (ci := 4) rfl 1 (wd_o1 ad ro c Z L) rfl (Nat.le_of_ble_eq_true rfl) (by rw [hR]; exact ⟨Nat.le_of_ble_eq_true rfl, Nat.le_of_ble_eq_true rfl⟩) dX7_join_65 (fun r65 Z65 q65 => ?_)
          refine j_eqi q65.1 ?_
          have hnew := g_SD_new hSD (g_WF_new hwf (g_NC_2 hn48 (by decide) hpn hqn (of_decide_eq_false h23) (of_decide_eq_false h34) h12 (hE p hpn).2.2.2.2.2.2 (hE q hqn).2.2.2.2.2.2)) q65.2.1 q65.2.2.1 q65.2.2.2
          exact j_xireti C hr E (Nat.le_of_ble_eq_true rfl) (Nat.le_of_ble_eq_true rfl) rfl (Z65, L) ⟨by unfold k_join; rw [if_neg (fun z => z.elim (fun z => z hbp) (fun z => z hbq)), if_neg hnp, if_neg (by omega)], rfl, by unfold t_join; rw [hcp, hcq]; exact hnew⟩ rfl dX7_join_68
        · exact j_throw0 X 37 E (ik := 82) (ic := 84) (cls := "java/lang/IllegalStateException") ix_ISE fx_ISE (C.t (.classLink RX7 82 "java/lang/IllegalStateException") (mX7_join_o _ (by decide +kernel))) (C.t (.initialized "java/lang/IllegalStateException") (mX7_join_o _ (by decide +kernel))) mX7_join_t84 ng_ISE gx_ISE dX7_join_37 dX7_join_40 dX7_join_41 dX7_join_44 (by rw [hR]; exact ⟨Nat.le_of_ble_eq_true rfl, Nat.le_of_ble_eq_true rfl⟩) (by rw [hR]; exact ⟨Nat.le_of_ble_eq_true rfl, Nat.le_of_ble_eq_true rfl⟩) (Nat.le_of_ble_eq_true rfl) (Nat.le_of_ble_eq_true rfl) (Z, L) ⟨⟨1, rfl, by unfold k_join; rw [if_neg (fun z => z.elim (fun z => z hbp) (fun z => z hbq)), if_pos (Or.inr (Or.inr (by rw [hcq]; exact of_decide_eq_true h34)))]⟩, hSD⟩ rfl
set_option maxHeartbeats 4000000 in
set_option maxRecDepth 100000 in
theorem c_X7_knot (ll : Launch) (hst : ll.stackTraces = false) (D : va_G) (ad ro : Nat → Nat) (c : Nat → ClassId) (Z : ZT) (L : LT) {n : Nat} {τ : Tb} {w : List Nat} {st : Int32} {tr : List Nat} (x a : Int32) (hSD : g_SD n τ w st tr Z L) : cXI (S := ZT × LT) (SX := ZT × LT) ll yX7_knot vsX7_knot ({ frames := 7, cells := 4, slots := 24, locals := 106 } : Room) D (tysG c) [.ref (ad 0), .int (x), .int (a)] (wd ad ro c Z L) (fun u => wd ad ro c u.1 u.2) (fun r u => k_knot n τ x a = 0 ∧ r = nI n ∧ g_SD (n + 1) (t_knot n τ x a) w st tr u.1 u.2) (fun u => wd ad ro c u.1 u.2) (fun E u => xk ["java/lang/IndexOutOfBoundsException", "java/lang/IllegalStateException", "java/lang/IllegalArgumentException", "java/lang/UnsupportedOperationException"] (k_knot n τ x a) E ∧ g_SD n τ w st tr u.1 u.2) 4 24 := by
  refine cXI_start (cc := cX7_knot) (maxL := 3) RX7 rfl (by decide +kernel) rfl (Nat.le_of_ble_eq_true rfl) hst ?_
  intro κ hlκ X hr E hR hn
  subst hlκ
  have C := X.1
  have hL : ∀ w ∈ u_ws RX7 TX7 7, w.before (ja κ) (js κ) = true := fun w h => C.t w (mX7_knot_wsX70 w h)
  have f12 : (Cond.fieldLink RX7 12 "GuardedGrammar" (TX7 0).2.1 (TX7 0).2.2.1).before (ja κ) (js κ) = true := C.t (.fieldLink RX7 12 "GuardedGrammar" "terms" "LGuardedGrammar$Terms;") (mX7_knot_o _ (by decide +kernel))
  show J D κ 0 0 0 [(0, .ref (ad 0)), (1, .int (x)), (2, .int (a))] [] (wd ad ro c Z L)
  obtain ⟨hwf, hE, hz, hwd, h50, h47, htr, htl⟩ := id hSD
  have h48n := hwf.1
  refine j_aload_n C 0 0 dX7_knot_0 rfl rfl ?_
  refine j_iload_n C 1 2 dX7_knot_1 rfl rfl ?_
  refine j_xcallV (mc := 1) (ms := 6) X 2 (c_X7_needTerm (jl κ) X.2.2.2.2 D ad ro c Z L n a hz) gX7_knot_X7_needTerm rfl rfl rfl hd_X7_needTerm (by rw [hR]; exact ⟨Nat.le_of_ble_eq_true rfl, Nat.le_of_ble_eq_true rfl⟩) (ci := 7) rfl 0 (wd_o0 ad ro c Z L) rfl (Nat.le_of_ble_eq_true rfl) (by rw [hR]; exact ⟨Nat.le_of_ble_eq_true rfl, Nat.le_of_ble_eq_true rfl⟩) dX7_knot_2 E ⟨Nat.le_of_ble_eq_true rfl, Nat.le_of_ble_eq_true rfl⟩ (fun E9 u9 h9 => ⟨(Z, L), ⟨⟨0, by rw [h9.1]; rfl, by unfold k_knot; rw [if_pos h9.2]⟩, hSD⟩, rfl⟩) (fun _ q2 => ?_)
  obtain ⟨p, hpn, rfl⟩ := (bT_iff hwf.1).mp q2
  have hbp : bT n (nI p) := q2
  have hcp : cN (nI p) = p := nI_clamp (by have := hwf.1; omega)
  refine j_aload_n C 5 0 dX7_knot_5 rfl rfl ?_
  refine j_get C 6 (ci := 7) hL rfl 0 (wd_o0 ad ro c Z L) 0 (by decide) f12 rfl (v := .ref (ad 1)) rfl dX7_knot_6 ?_
  refine j_iload_n C 9 2 dX7_knot_9 rfl rfl ?_
  refine j_callI (mc := 0) (ms := 0) C 10 (c_X4_isPart (jl κ) D ad ro c Z L p (by have := hwf.1; omega)) gX7_knot_X4_isPart rfl rfl rfl hd_X4_isPart (by rw [hR]; exact ⟨Nat.le_of_ble_eq_true rfl, Nat.le_of_ble_eq_true rfl⟩) (ci := 4) rfl 1 (wd_o1 ad ro c Z L) rfl (Nat.le_of_ble_eq_true rfl) (by rw [hR]; exact ⟨Nat.le_of_ble_eq_true rfl, Nat.le_of_ble_eq_true rfl⟩) dX7_knot_10 (fun r10 _ e10 => ?_)
  refine j_eqi (e10.trans (b2_iff (e_ip hwf hpn (hE _ hpn).2.2.2.2.1))) ?_
  refine j_if_eq_b C 13 24 dX7_knot_13 (by decide) (fun h13 => ?_) (fun h13 => ?_)
  · refine j_aload_n C 24 0 dX7_knot_24 rfl rfl ?_
    refine j_iload_n C 25 1 dX7_knot_25 rfl rfl ?_
    refine j_xcallV (mc := 1) (ms := 6) X 26 (c_X7_needVariable (jl κ) X.2.2.2.2 D ad ro c Z L x) gX7_knot_X7_needVariable rfl rfl rfl hd_X7_needVariable (by rw [hR]; exact ⟨Nat.le_of_ble_eq_true rfl, Nat.le_of_ble_eq_true rfl⟩) (ci := 7) rfl 0 (wd_o0 ad ro c Z L) rfl (Nat.le_of_ble_eq_true rfl) (by rw [hR]; exact ⟨Nat.le_of_ble_eq_true rfl, Nat.le_of_ble_eq_true rfl⟩) dX7_knot_26 E ⟨Nat.le_of_ble_eq_true rfl, Nat.le_of_ble_eq_true rfl⟩ (fun E9 u9 h9 => ⟨(Z, L), ⟨⟨2, by rw [h9.1]; rfl, by unfold k_knot; rw [if_neg (fun z => z hbp), if_neg (by rw [hcp]; exact of_decide_eq_false h13), if_pos h9.2]⟩, hSD⟩, rfl⟩) (fun _ q26 => ?_)
    obtain ⟨v, hv4, rfl⟩ := e_var4 q26
    have hvv : ¬ (nI v < 0 ∨ nI 4 ≤ nI v) := q26
    have hcv : cN (nI v) = v := nI_clamp (by omega)
    refine j_aload_n C 29 0 dX7_knot_29 rfl rfl ?_
    refine j_xcallV (mc := 1) (ms := 6) X 30 (c_X7_needRoom (jl κ) X.2.2.2.2 D ad ro c Z L n hz hwf.1) gX7_knot_X7_needRoom rfl rfl rfl hd_X7_needRoom (by rw [hR]; exact ⟨Nat.le_of_ble_eq_true rfl, Nat.le_of_ble_eq_true rfl⟩) (ci := 7) rfl 0 (wd_o0 ad ro c Z L) rfl (Nat.le_of_ble_eq_true rfl) (by rw [hR]; exact ⟨Nat.le_of_ble_eq_true rfl, Nat.le_of_ble_eq_true rfl⟩) dX7_knot_30 E ⟨Nat.le_of_ble_eq_true rfl, Nat.le_of_ble_eq_true rfl⟩ (fun E9 u9 h9 => ⟨(Z, L), ⟨⟨3, by rw [h9.1]; rfl, by unfold k_knot; rw [if_neg (fun z => z hbp), if_neg (by rw [hcp]; exact of_decide_eq_false h13), if_neg hvv, if_pos (Or.inl h9.2)]⟩, hSD⟩, rfl⟩) (fun _ q30 => ?_)
    have hn48 : n < 48 := q30
    have hp6 := (hE p hpn).2.2.2.2.2
    refine j_aload_n C 33 0 dX7_knot_33 rfl rfl ?_
    refine j_get C 34 (ci := 7) hL rfl 0 (wd_o0 ad ro c Z L) 0 (by decide) f12 rfl (v := .ref (ad 1)) rfl dX7_knot_34 ?_
    refine j_iload_n C 37 2 dX7_knot_37 rfl rfl ?_
    refine j_callI (mc := 0) (ms := 0) C 38 (c_X4_knotsIn (jl κ) D ad ro c Z L (nI p) (Or.inr ⟨p, by omega, rfl⟩)) gX7_knot_X4_knotsIn rfl rfl rfl hd_X4_knotsIn (by rw [hR]; exact ⟨Nat.le_of_ble_eq_true rfl, Nat.le_of_ble_eq_true rfl⟩) (ci := 4) rfl 1 (wd_o1 ad ro c Z L) rfl (Nat.le_of_ble_eq_true rfl) (by rw [hR]; exact ⟨Nat.le_of_ble_eq_true rfl, Nat.le_of_ble_eq_true rfl⟩) dX7_knot_38 (fun r38 _ e38 => ?_)
    refine j_eqi (y := nI (τ 6 p)) (e38.trans ((if_neg (e_nm1 (by omega))).trans (by rw [nI_clamp (by omega)]; exact hp6.1))) ?_
    refine j_iconst C 41 (v := nI 3) dX7_knot_41 rfl ?_
    refine j_icmp_lt_n C 42 53 (by omega) (by omega) dX7_knot_42 (by decide) (fun h42 => ?_) (fun h42 => ?_)
    · refine j_aload_n C 53 0 dX7_knot_53 rfl rfl ?_
      refine j_get C 54 (ci := 7) hL rfl 0 (wd_o0 ad ro c Z L) 0 (by decide) f12 rfl (v := .ref (ad 1)) rfl dX7_knot_54 ?_
      refine j_bipush C 57 (v := nI 6) dX7_knot_57 rfl ?_
      refine j_iload_n C 59 1 dX7_knot_59 rfl rfl ?_
      refine j_iload_n C 60 2 dX7_knot_60 rfl rfl ?_
      refine j_iconst C 61 (v := -1) dX7_knot_61 rfl ?_
      refine j_callI (mc := 0) (ms := 0) C 62 (c_X4_add (jl κ) D ad ro c Z L 6 v [p] (nI v) (nI p) (-1) hwf hE hz (g_NC_1 hn48 hv4 hpn (of_decide_eq_false h13) h42) (fun _ => rfl) rfl rfl) gX7_knot_X4_add rfl rfl rfl hd_X4_add (by rw [hR]; exact ⟨Nat.le_of_ble_eq_true rfl, Nat.le_of_ble_eq_true rfl⟩) (ci := 4) rfl 1 (wd_o1 ad ro c Z L) rfl (Nat.le_of_ble_eq_true rfl) (by rw [hR]; exact ⟨Nat.le_of_ble_eq_true rfl, Nat.le_of_ble_eq_true rfl⟩) dX7_knot_62 (fun r62 Z62 q62 => ?_)
      refine j_eqi q62.1 ?_
      have hnew := g_SD_new hSD (g_WF_new hwf (g_NC_1 hn48 hv4 hpn (of_decide_eq_false h13) h42)) q62.2.1 q62.2.2.1 q62.2.2.2
      exact j_xireti C hr E (Nat.le_of_ble_eq_true rfl) (Nat.le_of_ble_eq_true rfl) rfl (Z62, L) ⟨by unfold k_knot; rw [if_neg (fun z => z hbp), if_neg (by rw [hcp]; exact of_decide_eq_false h13), if_neg hvv, if_neg (by rw [hcp]; omega)], rfl, by unfold t_knot; rw [hcp, hcv]; exact hnew⟩ rfl dX7_knot_65
    · exact j_throw0 X 45 E (ik := 89) (ic := 91) (cls := "java/lang/UnsupportedOperationException") ix_UOE fx_UOE (C.t (.classLink RX7 89 "java/lang/UnsupportedOperationException") (mX7_knot_o _ (by decide +kernel))) (C.t (.initialized "java/lang/UnsupportedOperationException") (mX7_knot_o _ (by decide +kernel))) mX7_knot_t91 ng_UOE gx_UOE dX7_knot_45 dX7_knot_48 dX7_knot_49 dX7_knot_52 (by rw [hR]; exact ⟨Nat.le_of_ble_eq_true rfl, Nat.le_of_ble_eq_true rfl⟩) (by rw [hR]; exact ⟨Nat.le_of_ble_eq_true rfl, Nat.le_of_ble_eq_true rfl⟩) (Nat.le_of_ble_eq_true rfl) (Nat.le_of_ble_eq_true rfl) (Z, L) ⟨⟨3, rfl, by unfold k_knot; rw [if_neg (fun z => z hbp), if_neg (by rw [hcp]; exact of_decide_eq_false h13), if_neg hvv, if_pos (Or.inr (by rw [hcp]; exact h42))]⟩, hSD⟩ rfl
  · exact j_throw0 X 16 E (ik := 82) (ic := 84) (cls := "java/lang/IllegalStateException") ix_ISE fx_ISE (C.t (.classLink RX7 82 "java/lang/IllegalStateException") (mX7_knot_o _ (by decide +kernel))) (C.t (.initialized "java/lang/IllegalStateException") (mX7_knot_o _ (by decide +kernel))) mX7_knot_t84 ng_ISE gx_ISE dX7_knot_16 dX7_knot_19 dX7_knot_20 dX7_knot_23 (by rw [hR]; exact ⟨Nat.le_of_ble_eq_true rfl, Nat.le_of_ble_eq_true rfl⟩) (by rw [hR]; exact ⟨Nat.le_of_ble_eq_true rfl, Nat.le_of_ble_eq_true rfl⟩) (Nat.le_of_ble_eq_true rfl) (Nat.le_of_ble_eq_true rfl) (Z, L) ⟨⟨1, rfl, by unfold k_knot; rw [if_neg (fun z => z hbp), if_pos (by rw [hcp]; exact of_decide_eq_true h13)]⟩, hSD⟩ rfl
set_option maxHeartbeats 4000000 in
set_option maxRecDepth 100000 in
theorem c_X7_clear (ll : Launch) (D : va_G) (ad ro : Nat → Nat) (c : Nat → ClassId) (Z : ZT) (L : LT) {n : Nat} {τ : Tb} {w : List Nat} {st : Int32} {tr : List Nat} (hSD : g_SD n τ w st tr Z L) : cV (S := ZT × LT) ll yX7_clear vsX7_clear ({ frames := 1, cells := 0, slots := 0, locals := 20 } : Room) D (tysG c) [.ref (ad 0)] (wd ad ro c Z L) (fun u => wd ad ro c u.1 u.2) (fun u => g_SD 0 τ w st tr u.1 u.2) 0 0 := by
  refine cV_start (cc := cX7_clear) (maxL := 1) RX7 rfl (by decide +kernel) rfl (Nat.le_of_ble_eq_true rfl) ?_
  intro κ hlκ C hr _ E hR hn
  subst hlκ
  have hL : ∀ w ∈ u_ws RX7 TX7 7, w.before (ja κ) (js κ) = true := fun w h => C.t w (mX7_clear_wsX70 w h)
  have f12 : (Cond.fieldLink RX7 12 "GuardedGrammar" (TX7 0).2.1 (TX7 0).2.2.1).before (ja κ) (js κ) = true := C.t (.fieldLink RX7 12 "GuardedGrammar" "terms" "LGuardedGrammar$Terms;") (mX7_clear_o _ (by decide +kernel))
  show J D κ 0 0 0 [(0, .ref (ad 0))] [] (wd ad ro c Z L)
  obtain ⟨hwf, hE, hz, hwd, h50, h47, htr, htl⟩ := id hSD
  refine j_aload_n C 0 0 dX7_clear_0 rfl rfl ?_
  refine j_get C 1 (ci := 7) hL rfl 0 (wd_o0 ad ro c Z L) 0 (by decide) f12 rfl (v := .ref (ad 1)) rfl dX7_clear_1 ?_
  refine j_callV (mc := 0) (ms := 0) C 4 (c_X4_forgetAll (jl κ) D ad ro c Z L) gX7_clear_X4_forgetAll rfl rfl rfl hd_X4_forgetAll (by rw [hR]; exact ⟨Nat.le_of_ble_eq_true rfl, Nat.le_of_ble_eq_true rfl⟩) (ci := 4) rfl 1 (wd_o1 ad ro c Z L) rfl (Nat.le_of_ble_eq_true rfl) ⟨Nat.zero_le _, Nat.zero_le _⟩ dX7_clear_4 (fun _ _ => ?_)
  exact j_vreti C hr E (Nat.le_refl _) (Nat.le_refl _) ((upR Z 40 (fun _ => nI (0))), L) ⟨⟨Nat.zero_le _, fun t ht => by omega⟩, fun t ht => by omega, rfl, hwd, h50, h47, htr, htl⟩ rfl dX7_clear_7
set_option maxHeartbeats 4000000 in
set_option maxRecDepth 100000 in
theorem c_X7_terms (ll : Launch) (D : va_G) (ad ro : Nat → Nat) (c : Nat → ClassId) (Z : ZT) (L : LT) {n : Nat} {τ : Tb} {w : List Nat} {st : Int32} {tr : List Nat} (hSD : g_SD n τ w st tr Z L) : cI (S := Unit) ll yX7_terms vsX7_terms ({ frames := 1, cells := 0, slots := 0, locals := 20 } : Room) D (tysG c) [.ref (ad 0)] (wd ad ro c Z L) (fun _ => wd ad ro c Z L) (fun r _ => r = nI n) 0 0 := by
  refine cI_start (cc := cX7_terms) (maxL := 1) RX7 rfl (by decide +kernel) rfl (Nat.le_of_ble_eq_true rfl) ?_
  intro κ hlκ C hr _ E hR hn
  subst hlκ
  have hL : ∀ w ∈ u_ws RX7 TX7 7, w.before (ja κ) (js κ) = true := fun w h => C.t w (mX7_terms_wsX70 w h)
  have f12 : (Cond.fieldLink RX7 12 "GuardedGrammar" (TX7 0).2.1 (TX7 0).2.2.1).before (ja κ) (js κ) = true := C.t (.fieldLink RX7 12 "GuardedGrammar" "terms" "LGuardedGrammar$Terms;") (mX7_terms_o _ (by decide +kernel))
  show J D κ 0 0 0 [(0, .ref (ad 0))] [] (wd ad ro c Z L)
  obtain ⟨hwf, hE, hz, hwd, h50, h47, htr, htl⟩ := id hSD
  refine j_aload_n C 0 0 dX7_terms_0 rfl rfl ?_
  refine j_get C 1 (ci := 7) hL rfl 0 (wd_o0 ad ro c Z L) 0 (by decide) f12 rfl (v := .ref (ad 1)) rfl dX7_terms_1 ?_
  refine j_callI (mc := 0) (ms := 0) C 4 (c_X4_size (jl κ) D ad ro c Z L ) gX7_terms_X4_size rfl rfl rfl hd_X4_size (by rw [hR]; exact ⟨Nat.le_of_ble_eq_true rfl, Nat.le_of_ble_eq_true rfl⟩) (ci := 4) rfl 1 (wd_o1 ad ro c Z L) rfl (Nat.le_of_ble_eq_true rfl) ⟨Nat.zero_le _, Nat.zero_le _⟩ dX7_terms_4 (fun r4 _ e4 => ?_)
  refine j_eqi (y := nI (n)) (e4.trans hz) ?_
  exact j_ireti C hr E (Nat.le_refl _) (Nat.le_refl _) rfl () rfl rfl dX7_terms_7
set_option maxHeartbeats 4000000 in
set_option maxRecDepth 100000 in
theorem c_X7_fault (ll : Launch) (hst : ll.stackTraces = false) (D : va_G) (ad ro : Nat → Nat) (c : Nat → ClassId) (Z : ZT) (L : LT) {n : Nat} {τ : Tb} {w : List Nat} {st : Int32} {tr : List Nat} (x : Int32) (hSD : g_SD n τ w st tr Z L) : cXI (S := ZT × LT) (SX := ZT × LT) ll yX7_fault vsX7_fault ({ frames := 7, cells := 1, slots := 6, locals := 117 } : Room) D (tysG c) [.ref (ad 0), .int (x)] (wd ad ro c Z L) (fun u => wd ad ro c u.1 u.2) (fun r u => k_fault n x = 0 ∧ r = nI (g_fo τ (cN x)) ∧ g_SD n τ w st tr u.1 u.2) (fun u => wd ad ro c u.1 u.2) (fun E u => xk ["java/lang/IndexOutOfBoundsException"] (k_fault n x) E ∧ g_SD n τ w st tr u.1 u.2) 1 6 := by
  refine cXI_start (cc := cX7_fault) (maxL := 2) RX7 rfl (by decide +kernel) rfl (Nat.le_of_ble_eq_true rfl) hst ?_
  intro κ hlκ X hr E hR hn
  subst hlκ
  have C := X.1
  have hL : ∀ w ∈ u_ws RX7 TX7 7, w.before (ja κ) (js κ) = true := fun w h => C.t w (mX7_fault_wsX70 w h)
  have f21 : (Cond.fieldLink RX7 21 "GuardedGrammar" (TX7 1).2.1 (TX7 1).2.2.1).before (ja κ) (js κ) = true := C.t (.fieldLink RX7 21 "GuardedGrammar" "typing" "LGuardedGrammar$Typing;") (mX7_fault_o _ (by decide +kernel))
  show J D κ 0 0 0 [(0, .ref (ad 0)), (1, .int (x))] [] (wd ad ro c Z L)
  obtain ⟨hwf, hE, hz, hwd, h50, h47, htr, htl⟩ := id hSD
  refine j_aload_n C 0 0 dX7_fault_0 rfl rfl ?_
  refine j_iload_n C 1 1 dX7_fault_1 rfl rfl ?_
  refine j_xcallV (mc := 1) (ms := 6) X 2 (c_X7_needTerm (jl κ) X.2.2.2.2 D ad ro c Z L n x hz) gX7_fault_X7_needTerm rfl rfl rfl hd_X7_needTerm (by rw [hR]; exact ⟨Nat.le_of_ble_eq_true rfl, Nat.le_of_ble_eq_true rfl⟩) (ci := 7) rfl 0 (wd_o0 ad ro c Z L) rfl (Nat.le_of_ble_eq_true rfl) (by rw [hR]; exact ⟨Nat.le_of_ble_eq_true rfl, Nat.le_of_ble_eq_true rfl⟩) dX7_fault_2 E ⟨Nat.le_of_ble_eq_true rfl, Nat.le_of_ble_eq_true rfl⟩ (fun E9 u9 h9 => ⟨(Z, L), ⟨⟨0, by rw [h9.1]; rfl, by unfold k_fault; rw [if_neg h9.2]⟩, hSD⟩, rfl⟩) (fun _ q2 => ?_)
  obtain ⟨p, hpn, rfl⟩ := (bT_iff hwf.1).mp q2
  have hbp : bT n (nI p) := q2
  have hcp : cN (nI p) = p := nI_clamp (by have := hwf.1; omega)
  refine j_aload_n C 5 0 dX7_fault_5 rfl rfl ?_
  refine j_get C 6 (ci := 7) hL rfl 0 (wd_o0 ad ro c Z L) 1 (by decide) f21 rfl (v := .ref (ad 2)) rfl dX7_fault_6 ?_
  refine j_iload_n C 9 1 dX7_fault_9 rfl rfl ?_
  refine j_callV (mc := 0) (ms := 0) C 10 (c_X5_study (jl κ) D ad ro c Z L p hwf hpn hE) gX7_fault_X5_study rfl rfl rfl hd_X5_study (by rw [hR]; exact ⟨Nat.le_of_ble_eq_true rfl, Nat.le_of_ble_eq_true rfl⟩) (ci := 5) rfl 2 (wd_o2 ad ro c Z L) rfl (Nat.le_of_ble_eq_true rfl) (by rw [hR]; exact ⟨Nat.le_of_ble_eq_true rfl, Nat.le_of_ble_eq_true rfl⟩) dX7_fault_10 (fun Z10 q10 => ?_)
  have hE10 : g_ED n τ Z10 := g_ED_fr q10.2 (by decide) hE
  refine j_aload_n C 13 0 dX7_fault_13 rfl rfl ?_
  refine j_get C 14 (ci := 7) hL rfl 0 (wd_o0 ad ro c Z10 L) 1 (by decide) f21 rfl (v := .ref (ad 2)) rfl dX7_fault_14 ?_
  refine j_callI (mc := 0) (ms := 0) C 17 (c_X5_firstFault (jl κ) D ad ro c Z10 L (g_T τ p) hwf hpn hE10 q10.1.2.1 q10.1.2.2.2 q10.1.1) gX7_fault_X5_firstFault rfl rfl rfl hd_X5_firstFault (by rw [hR]; exact ⟨Nat.le_of_ble_eq_true rfl, Nat.le_of_ble_eq_true rfl⟩) (ci := 5) rfl 2 (wd_o2 ad ro c Z10 L) rfl (Nat.le_of_ble_eq_true rfl) (by rw [hR]; exact ⟨Nat.le_of_ble_eq_true rfl, Nat.le_of_ble_eq_true rfl⟩) dX7_fault_17 (fun r17 _ e17 => ?_)
  refine j_eqi (y := nI (g_fo τ p)) e17 ?_
  exact j_xireti C hr E (Nat.le_of_ble_eq_true rfl) (Nat.le_of_ble_eq_true rfl) rfl (Z10, L) ⟨by unfold k_fault; rw [if_pos hbp], by rw [hcp], g_SD_fr hSD q10.2 (by decide) rfl⟩ rfl dX7_fault_20
set_option maxHeartbeats 4000000 in
set_option maxRecDepth 100000 in
theorem c_X7_type (ll : Launch) (hst : ll.stackTraces = false) (D : va_G) (ad ro : Nat → Nat) (c : Nat → ClassId) (Z : ZT) (L : LT) {n : Nat} {τ : Tb} {w : List Nat} {st : Int32} {tr : List Nat} (x y : Int32) (hSD : g_SD n τ w st tr Z L) : cXI (S := ZT × LT) (SX := ZT × LT) ll yX7_type vsX7_type ({ frames := 7, cells := 3, slots := 18, locals := 138 } : Room) D (tysG c) [.ref (ad 0), .int (x), .int (y)] (wd ad ro c Z L) (fun u => wd ad ro c u.1 u.2) (fun r u => k_type n τ x y = 0 ∧ r = v_type τ x y ∧ g_SD n τ w st tr u.1 u.2) (fun u => wd ad ro c u.1 u.2) (fun E u => xk ["java/lang/IndexOutOfBoundsException", "java/lang/IllegalStateException"] (k_type n τ x y) E ∧ g_SD n τ w st tr u.1 u.2) 3 18 := by
  refine cXI_start (cc := cX7_type) (maxL := 3) RX7 rfl (by decide +kernel) rfl (Nat.le_of_ble_eq_true rfl) hst ?_
  intro κ hlκ X hr E hR hn
  subst hlκ
  have C := X.1
  have hL : ∀ w ∈ u_ws RX7 TX7 7, w.before (ja κ) (js κ) = true := fun w h => C.t w (mX7_type_wsX70 w h)
  have f21 : (Cond.fieldLink RX7 21 "GuardedGrammar" (TX7 1).2.1 (TX7 1).2.2.1).before (ja κ) (js κ) = true := C.t (.fieldLink RX7 21 "GuardedGrammar" "typing" "LGuardedGrammar$Typing;") (mX7_type_o _ (by decide +kernel))
  show J D κ 0 0 0 [(0, .ref (ad 0)), (1, .int (x)), (2, .int (y))] [] (wd ad ro c Z L)
  obtain ⟨hwf, hE, hz, hwd, h50, h47, htr, htl⟩ := id hSD
  refine j_aload_n C 0 0 dX7_type_0 rfl rfl ?_
  refine j_iload_n C 1 1 dX7_type_1 rfl rfl ?_
  refine j_xcallV (mc := 1) (ms := 6) X 2 (c_X7_needTerm (jl κ) X.2.2.2.2 D ad ro c Z L n x hz) gX7_type_X7_needTerm rfl rfl rfl hd_X7_needTerm (by rw [hR]; exact ⟨Nat.le_of_ble_eq_true rfl, Nat.le_of_ble_eq_true rfl⟩) (ci := 7) rfl 0 (wd_o0 ad ro c Z L) rfl (Nat.le_of_ble_eq_true rfl) (by rw [hR]; exact ⟨Nat.le_of_ble_eq_true rfl, Nat.le_of_ble_eq_true rfl⟩) dX7_type_2 E ⟨Nat.le_of_ble_eq_true rfl, Nat.le_of_ble_eq_true rfl⟩ (fun E9 u9 h9 => ⟨(Z, L), ⟨⟨0, by rw [h9.1]; rfl, by unfold k_type; rw [if_pos (Or.inl h9.2)]⟩, hSD⟩, rfl⟩) (fun _ q2 => ?_)
  obtain ⟨p, hpn, rfl⟩ := (bT_iff hwf.1).mp q2
  have hbp : bT n (nI p) := q2
  have hcp : cN (nI p) = p := nI_clamp (by have := hwf.1; omega)
  refine j_iload_n C 5 2 dX7_type_5 rfl rfl ?_
  refine j_if_lt C 6 14 dX7_type_6 (by decide) (fun h6 => ?_) (fun h6 => ?_)
  · exact j_throw0 X 14 E (ik := 105) (ic := 107) (cls := "java/lang/IndexOutOfBoundsException") ix_IOB fx_IOB (C.t (.classLink RX7 105 "java/lang/IndexOutOfBoundsException") (mX7_type_o _ (by decide +kernel))) (C.t (.initialized "java/lang/IndexOutOfBoundsException") (mX7_type_o _ (by decide +kernel))) mX7_type_t107 ng_IOB gx_IOB dX7_type_14 dX7_type_17 dX7_type_18 dX7_type_21 (by rw [hR]; exact ⟨Nat.le_of_ble_eq_true rfl, Nat.le_of_ble_eq_true rfl⟩) (by rw [hR]; exact ⟨Nat.le_of_ble_eq_true rfl, Nat.le_of_ble_eq_true rfl⟩) (Nat.le_of_ble_eq_true rfl) (Nat.le_of_ble_eq_true rfl) (Z, L) ⟨⟨0, rfl, by unfold k_type; rw [if_pos (Or.inr (Or.inl h6))]⟩, hSD⟩ rfl
  · refine j_iload_n C 9 2 dX7_type_9 rfl rfl ?_
    refine j_iconst C 10 (v := nI 2) dX7_type_10 rfl ?_
    refine j_icmp_le C 11 22 dX7_type_11 (by decide) (fun h11 => ?_) (fun h11 => ?_)
    · refine j_aload_n C 22 0 dX7_type_22 rfl rfl ?_
      refine j_iload_n C 23 1 dX7_type_23 rfl rfl ?_
      refine j_xcallV (mc := 1) (ms := 6) X 24 (c_X7_needTyped (jl κ) X.2.2.2.2 D ad ro c Z L p hwf hpn hE) gX7_type_X7_needTyped rfl rfl rfl hd_X7_needTyped (by rw [hR]; exact ⟨Nat.le_of_ble_eq_true rfl, Nat.le_of_ble_eq_true rfl⟩) (ci := 7) rfl 0 (wd_o0 ad ro c Z L) rfl (Nat.le_of_ble_eq_true rfl) (by rw [hR]; exact ⟨Nat.le_of_ble_eq_true rfl, Nat.le_of_ble_eq_true rfl⟩) dX7_type_24 E ⟨Nat.le_of_ble_eq_true rfl, Nat.le_of_ble_eq_true rfl⟩ (fun E9 u9 h9 => ⟨(u9, L), ⟨⟨1, by rw [h9.1]; rfl, by unfold k_type; rw [if_neg (fun z => z.elim (fun z => z hbp) (fun z => z.elim h6 (fun z => z h11))), if_pos (by rw [hcp]; exact h9.2.1)]⟩, g_SD_fr hSD h9.2.2 (by decide) rfl⟩, rfl⟩) (fun Z24 q24 => ?_)
      obtain ⟨hST24, hfo24, hfr24⟩ := q24
      have hSD24 : g_SD n τ w st tr Z24 L := g_SD_fr hSD hfr24 (by decide) rfl
      have hpP := g_P_self hwf hpn
      refine j_iload_n C 27 2 dX7_type_27 rfl rfl ?_
      refine j_if_ne C 28 48 dX7_type_28 (by decide) (fun h28 => ?_) (fun h28 => ?_)
      · refine j_iload_n C 48 2 dX7_type_48 rfl rfl ?_
        refine j_iconst C 49 (v := nI 1) dX7_type_49 rfl ?_
        refine j_icmp_ne C 50 64 dX7_type_50 (by decide) (fun h50 => ?_) (fun h50 => ?_)
        · refine j_aload_n C 64 0 dX7_type_64 rfl rfl ?_
          refine j_get C 65 (ci := 7) hL rfl 0 (wd_o0 ad ro c Z24 L) 1 (by decide) f21 rfl (v := .ref (ad 2)) rfl dX7_type_65 ?_
          refine j_iload_n C 68 1 dX7_type_68 rfl rfl ?_
          refine j_callI (mc := 0) (ms := 0) C 69 (c_X5_afterOf (jl κ) D ad ro c Z24 L (p) (by have := hwf.1; omega)) gX7_type_X5_afterOf rfl rfl rfl hd_X5_afterOf (by rw [hR]; exact ⟨Nat.le_of_ble_eq_true rfl, Nat.le_of_ble_eq_true rfl⟩) (ci := 5) rfl 2 (wd_o2 ad ro c Z24 L) rfl (Nat.le_of_ble_eq_true rfl) (by rw [hR]; exact ⟨Nat.le_of_ble_eq_true rfl, Nat.le_of_ble_eq_true rfl⟩) dX7_type_69 (fun r69 _ e69 => ?_)
          refine j_eqi (y := nI (g_af (g_T τ p) p)) (e69.trans (hST24.2.2.2 p hpP).2.2.1) ?_
          exact j_xireti C hr E (Nat.le_of_ble_eq_true rfl) (Nat.le_of_ble_eq_true rfl) rfl (Z24, L) ⟨by unfold k_type; rw [if_neg (fun z => z.elim (fun z => z hbp) (fun z => z.elim h6 (fun z => z h11))), if_neg (by rw [hcp]; exact fun z => z hfo24)], by unfold v_type; rw [if_neg h28, if_neg h50, hcp], hSD24⟩ rfl dX7_type_72
        · refine j_aload_n C 53 0 dX7_type_53 rfl rfl ?_
          refine j_get C 54 (ci := 7) hL rfl 0 (wd_o0 ad ro c Z24 L) 1 (by decide) f21 rfl (v := .ref (ad 2)) rfl dX7_type_54 ?_
          refine j_iload_n C 57 1 dX7_type_57 rfl rfl ?_
          refine j_callI (mc := 0) (ms := 0) C 58 (c_X5_firstOf (jl κ) D ad ro c Z24 L (p) (by have := hwf.1; omega)) gX7_type_X5_firstOf rfl rfl rfl hd_X5_firstOf (by rw [hR]; exact ⟨Nat.le_of_ble_eq_true rfl, Nat.le_of_ble_eq_true rfl⟩) (ci := 5) rfl 2 (wd_o2 ad ro c Z24 L) rfl (Nat.le_of_ble_eq_true rfl) (by rw [hR]; exact ⟨Nat.le_of_ble_eq_true rfl, Nat.le_of_ble_eq_true rfl⟩) dX7_type_58 (fun r58 _ e58 => ?_)
          refine j_eqi (y := nI (g_fi (g_T τ p) p)) (e58.trans (hST24.2.2.2 p hpP).2.1) ?_
          refine j_goto C 61 72 dX7_type_61 (by decide) ?_
          exact j_xireti C hr E (Nat.le_of_ble_eq_true rfl) (Nat.le_of_ble_eq_true rfl) rfl (Z24, L) ⟨by unfold k_type; rw [if_neg (fun z => z.elim (fun z => z hbp) (fun z => z.elim h6 (fun z => z h11))), if_neg (by rw [hcp]; exact fun z => z hfo24)], by unfold v_type; rw [if_neg h28, if_pos h50, hcp], hSD24⟩ rfl dX7_type_72
      · refine j_aload_n C 31 0 dX7_type_31 rfl rfl ?_
        refine j_get C 32 (ci := 7) hL rfl 0 (wd_o0 ad ro c Z24 L) 1 (by decide) f21 rfl (v := .ref (ad 2)) rfl dX7_type_32 ?_
        refine j_iload_n C 35 1 dX7_type_35 rfl rfl ?_
        refine j_callI (mc := 0) (ms := 0) C 36 (c_X5_isNullable (jl κ) D ad ro c Z24 L (p) (g_nu (g_T τ p) p) (by have := hwf.1; omega) (hST24.2.2.2 p hpP).1) gX7_type_X5_isNullable rfl rfl rfl hd_X5_isNullable (by rw [hR]; exact ⟨Nat.le_of_ble_eq_true rfl, Nat.le_of_ble_eq_true rfl⟩) (ci := 5) rfl 2 (wd_o2 ad ro c Z24 L) rfl (Nat.le_of_ble_eq_true rfl) (by rw [hR]; exact ⟨Nat.le_of_ble_eq_true rfl, Nat.le_of_ble_eq_true rfl⟩) dX7_type_36 (fun r36 _ e36 => ?_)
        refine j_eqi (y := b2 (g_nu (g_T τ p) p)) (e36) ?_
        refine j_if_eq_b C 39 46 dX7_type_39 (by decide) (fun h39 => ?_) (fun h39 => ?_)
        · refine j_iconst C 46 (v := nI 0) dX7_type_46 rfl ?_
          exact j_xireti C hr E (Nat.le_of_ble_eq_true rfl) (Nat.le_of_ble_eq_true rfl) rfl (Z24, L) ⟨by unfold k_type; rw [if_neg (fun z => z.elim (fun z => z hbp) (fun z => z.elim h6 (fun z => z h11))), if_neg (by rw [hcp]; exact fun z => z hfo24)], by unfold v_type; rw [if_pos h28, hcp, if_neg (by rw [h39]; decide)], hSD24⟩ rfl dX7_type_47
        · refine j_iconst C 42 (v := nI 1) dX7_type_42 rfl ?_
          refine j_goto C 43 47 dX7_type_43 (by decide) ?_
          exact j_xireti C hr E (Nat.le_of_ble_eq_true rfl) (Nat.le_of_ble_eq_true rfl) rfl (Z24, L) ⟨by unfold k_type; rw [if_neg (fun z => z.elim (fun z => z hbp) (fun z => z.elim h6 (fun z => z h11))), if_neg (by rw [hcp]; exact fun z => z hfo24)], by unfold v_type; rw [if_pos h28, hcp, if_pos h39], hSD24⟩ rfl dX7_type_47
    · exact j_throw0 X 14 E (ik := 105) (ic := 107) (cls := "java/lang/IndexOutOfBoundsException") ix_IOB fx_IOB (C.t (.classLink RX7 105 "java/lang/IndexOutOfBoundsException") (mX7_type_o _ (by decide +kernel))) (C.t (.initialized "java/lang/IndexOutOfBoundsException") (mX7_type_o _ (by decide +kernel))) mX7_type_t107 ng_IOB gx_IOB dX7_type_14 dX7_type_17 dX7_type_18 dX7_type_21 (by rw [hR]; exact ⟨Nat.le_of_ble_eq_true rfl, Nat.le_of_ble_eq_true rfl⟩) (by rw [hR]; exact ⟨Nat.le_of_ble_eq_true rfl, Nat.le_of_ble_eq_true rfl⟩) (Nat.le_of_ble_eq_true rfl) (Nat.le_of_ble_eq_true rfl) (Z, L) ⟨⟨0, rfl, by unfold k_type; rw [if_pos (Or.inr (Or.inr h11))]⟩, hSD⟩ rfl
