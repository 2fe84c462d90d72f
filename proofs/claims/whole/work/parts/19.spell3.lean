/-! contracts: Speller.spellNext, startPile, spell -/
theorem g_WD_push {w : List Nat} {Z : ZT} (h : g_WD w (Z 42 0) (Z 22)) (hl : w.length < 40) {x : Nat} (hx : x < 8) : g_WD (w ++ [x]) (upR (upR Z 22 (upd (Z 22) w.length (nI x))) 42 (fun _ => nI (w.length + 1)) 42 0) (upR (upR Z 22 (upd (Z 22) w.length (nI x))) 42 (fun _ => nI (w.length + 1)) 22) := by
  refine ⟨by simp; omega, by rw [List.length_append]; rfl, g_ar_push h.2.2.1 rfl, fun u hu => ?_⟩
  rcases List.mem_append.mp hu with z | z
  · exact h.2.2.2 u z
  · rw [List.mem_singleton.mp z]; exact hx
/-- the speller's state: the pile π, its numbers up to r, and the word w -/
def g_SP (τ : Tb) (root r : Nat) (w π : List Nat) (Z : ZT) (L : LT) : Prop := g_ar (Z 24) 0 π ∧ Z 48 0 = nI π.length ∧ g_WY τ root π r (L 28) ∧ g_WD w (Z 42 0) (Z 22)
theorem g_pk_no {f : Nat → Nat} {k x l v : Nat} (hv : f x = v) (h : ¬ l < v) : g_pk f (k + 1) x l = g_pk f k (x + 1) (l - v) := by
  subst hv
  rw [show g_pk f (k + 1) x l = if l < f x then (x, l) else g_pk f k (x + 1) (l - f x) from rfl, if_neg h]
theorem g_pk_yes {f : Nat → Nat} {k x l : Nat} (h : l < f x) : g_pk f (k + 1) x l = (x, l) := by
  rw [show g_pk f (k + 1) x l = if l < f x then (x, l) else g_pk f k (x + 1) (l - f x) from rfl, if_pos h]
theorem g_sp_next {f : Nat → Nat} {k x l v : Nat} (hv : f x = v) (h : l < g_sp (fun y => f (x + y)) (k + 1)) (h2 : ¬ l < v) : l - v < g_sp (fun y => f (x + 1 + y)) k := by
  subst hv
  rw [g_sp_head] at h
  have e2 : g_tl (fun y => f (x + y)) = fun y => f (x + 1 + y) := by
    funext y
    show f (x + (y + 1)) = f (x + 1 + y)
    rw [show x + (y + 1) = x + 1 + y by omega]
  rw [e2, Nat.add_zero] at h
  omega
set_option maxHeartbeats 4000000 in
set_option maxRecDepth 100000 in
theorem c_X1_spellNext (ll : Launch) (D : va_G) (ad ro : Nat → Nat) (c : Nat → ClassId) (Z : ZT) (L : LT) {n : Nat} {τ : Tb} {root : Nat} (π w : List Nat) (r l g v : Nat) (hwf : g_WF n τ) (hr2 : root < n) (hE : g_ED n τ Z) (hST : g_ST τ root Z) (hT : g_TY τ root (g_T τ root)) (hr15 : r ≤ 15) (hSP : g_SP τ root r w π Z L) (hwl : w.length < 40) (hCN : g_CN τ root (r + 1) (vD L)) (hI : g_I τ root (g_T τ root) π.reverse g v) (hg : g ≤ 15) (hl : l < g_N τ root π.reverse (r + 1)) : cL (S := ZT × LT) ll yX1_spellNext vsX1_spellNext ({ frames := 4, cells := 0, slots := 0, locals := 91 } : Room) D (tysG c) [.ref (ad 8), .int (nI (r)), .long (lN l), .ref (ad 3)] (wd ad ro c Z L) (fun u => wd ad ro c u.1 u.2) (fun x u => x = lN (g_pk (fun x => g_Nx τ root (g_T τ root) x π.reverse r) 8 0 l).2 ∧ g_SP τ root r (w ++ [(g_pk (fun x => g_Nx τ root (g_T τ root) x π.reverse r) 8 0 l).1]) (g_run τ root (g_T τ root) (g_pk (fun x => g_Nx τ root (g_T τ root) x π.reverse r) 8 0 l).1 π.reverse).2.reverse u.1 u.2 ∧ g_fr [22, 24, 25, 42, 48, 49] Z u.1 ∧ g_fl [28, 29] L u.2) 0 0 := by
  refine cL_start (cc := cX1_spellNext) (maxL := 11) RX1 rfl (by decide +kernel) rfl (Nat.le_of_ble_eq_true rfl) ?_
  intro κ hlκ C hr _ E hR hn
  subst hlκ
  have hL : ∀ w ∈ u_ws RX1 TX1 9, w.before (ja κ) (js κ) = true := fun w h => C.t w (mX1_spellNext_wsX10 w h)
  have f9 : (Cond.fieldLink RX1 9 "GuardedGrammar$Speller" (TX1 3).2.1 (TX1 3).2.2.1).before (ja κ) (js κ) = true := C.t (.fieldLink RX1 9 "GuardedGrammar$Speller" "pile" "[I") (mX1_spellNext_o _ (by decide +kernel))
  show J D κ 0 0 0 [(0, .ref (ad 8)), (1, .int (nI (r))), (2, .long (lN l)), (4, .ref (ad 3))] [] (wd ad ro c Z L)
  have h48n := hwf.1
  obtain ⟨hpi, hz, hWY, hwd⟩ := hSP
  have hIl := g_I_le hwf hr2 hI
  rw [List.length_reverse] at hIl
  have hπP : ∀ u, u ∈ π → u ∈ g_P τ root := fun u hu => hI.1 u (List.mem_reverse.mpr hu)
  have hl63 := g_N_small hwf hr2 hT hI.1 hI.2.1 (show r + 1 ≤ 16 by omega)
  have hl8 : l < g_sp (fun y => (fun x => g_Nx τ root (g_T τ root) x π.reverse r) (0 + y)) 8 := by
    rw [g_cons hwf hr2 hT _ _ hI.1 hI.2.1 (Nat.le_refl _) r] at hl
    simpa using hl
  have loop : ∀ k x l1 (Z1 : ZT) (L1 : LT), k + x = 8 → g_pk (fun x => g_Nx τ root (g_T τ root) x π.reverse r) k x l1 = g_pk (fun x => g_Nx τ root (g_T τ root) x π.reverse r) 8 0 l → l1 < g_sp (fun y => (fun x => g_Nx τ root (g_T τ root) x π.reverse r) (x + y)) k → l1 ≤ l → g_fr [25, 49] Z Z1 → g_fl [29] L L1 → ∀ lv, lv_pick lv [0, 1, 2, 3, 4, 5] = [(7, .int (nI (x))), (5, .long (lN l1)), (0, .ref (ad 8)), (1, .int (nI (r))), (2, .long (lN l)), (4, .ref (ad 3))] → J D κ 0 0 6 lv [] (wd ad ro c Z1 L1) := by
    intro k
    induction k with
    | zero =>
      intro x l1 Z1 L1 hk hpk hlt
      exact absurd hlt (Nat.not_lt_zero _)
    | succ k ih =>
      intro x l1 Z1 L1 hk hpk hlt hle hfr hfl lv hlv
      have hx8 : x < 8 := by omega
      have hE1 : g_ED n τ Z1 := g_ED_fr hfr (by decide) hE
      have hST1 : g_ST τ root Z1 := g_ST_fr hfr (by decide) hST
      have hpi1 : g_ar (Z1 24) 0 π := by rw [hfr 24 (by decide)]; exact hpi
      have hz1 : Z1 48 0 = nI π.length := by rw [hfr 48 (by decide)]; exact hz
      have hCN1 : g_CN τ root (r + 1) (vD L1) := fun u hu j hj => by
        show L1 (100 + u) j = _
        rw [hfl (100 + u) (by simp; omega)]
        exact hCN u hu j hj
      have hWY1 : g_WY τ root π r (L1 28) := by rw [hfl 28 (by decide)]; exact hWY
      refine j_lv [0, 1, 2, 3, 4, 5] hlv ?_
      refine j_iload C 6 0 dX1_spellNext_6 rfl ?_
      refine j_bipush C 8 (v := nI 8) dX1_spellNext_8 rfl ?_
      refine j_icmp_ge_n C 10 87 (by omega) (by omega) dX1_spellNext_10 (by decide) (fun h => absurd h (by omega)) (fun _ => ?_)
      refine j_aload_n C 13 2 dX1_spellNext_13 rfl rfl ?_
      refine j_iload C 14 0 dX1_spellNext_14 rfl ?_
      refine j_callI (mc := 0) (ms := 0) C 16 (c_X1_readerOf (jl κ) D ad ro c Z1 L1 π x hwf hr2 hST1 hT hpi1 hz1 (by omega) hπP hx8) gX1_spellNext_X1_readerOf rfl rfl rfl hd_X1_readerOf (by rw [hR]; exact ⟨Nat.le_of_ble_eq_true rfl, Nat.le_of_ble_eq_true rfl⟩) (ci := 1) rfl 8 (wd_o8 ad ro c Z1 L1) rfl (Nat.le_of_ble_eq_true rfl) ⟨Nat.zero_le _, Nat.zero_le _⟩ dX1_spellNext_16 (fun r16 _ q16 => ?_)
      rcases q16 with ⟨e16, hfr0⟩ | ⟨a, ha, e16, hbit, hrun⟩
      · refine j_eqi e16 ?_
        have hf0 : (fun x => g_Nx τ root (g_T τ root) x π.reverse r) x = 0 := by
          show g_Nx τ root (g_T τ root) x π.reverse r = 0
          unfold g_Nx
          rw [if_neg (g_fail hwf hr2 hT x _ hI.1 hfr0)]
        refine j_istore C 19 (lv' := [(8, .int (-1)), (7, .int (nI (x))), (5, .long (lN l1)), (0, .ref (ad 8)), (1, .int (nI (r))), (2, .long (lN l)), (4, .ref (ad 3))]) dX1_spellNext_19 (by rw [hn]; decide) rfl ?_
        refine j_iload C 21 0 dX1_spellNext_21 rfl ?_
        refine j_iconst C 23 (v := -1) dX1_spellNext_23 rfl ?_
        refine j_icmp_eq C 24 81 dX1_spellNext_24 (by decide) (fun _ => ?_) (fun h => absurd rfl h)
        refine j_iinc C 81 1 (v := (nI (x + 1))) (lv' := [(7, .int (nI (x + 1))), (8, .int (-1)), (5, .long (lN l1)), (0, .ref (ad 8)), (1, .int (nI (r))), (2, .long (lN l)), (4, .ref (ad 3))]) dX1_spellNext_81 rfl (nI_add (x) 1) (by rw [hn]; decide) rfl ?_
        refine j_goto C 84 6 dX1_spellNext_84 (by decide) ?_
        have e1 := g_pk_no (f := (fun x => g_Nx τ root (g_T τ root) x π.reverse r)) (k := k) (l := l1) hf0 (Nat.not_lt_zero _)
        have hn2 := g_sp_next (f := (fun x => g_Nx τ root (g_T τ root) x π.reverse r)) hf0 hlt (Nat.not_lt_zero _)
        exact j_lv [0, 2, 3, 4, 5, 6] rfl (ih (x + 1) l1 Z1 L1 (by omega) (e1.symm.trans hpk) hn2 hle hfr hfl _ rfl)
      · refine j_eqi e16 ?_
        obtain ⟨t, hu⟩ : ∃ t, t = π[a] := ⟨_, rfl⟩
        rw [← hu] at hbit
        have htP : t ∈ g_P τ root := hπP t (by rw [hu]; exact List.getElem_mem ha)
        have htn := g_P_lt hwf hr2 htP
        have hfe : Z1 24 a = nI t := by have q := hpi1 a ha; rw [Nat.zero_add] at q; rw [hu]; exact q
        have htk : (π.take (a + 1)).reverse = t :: (π.take a).reverse := by rw [List.take_add_one, List.getElem?_eq_getElem ha, ← hu]; simp
        obtain ⟨φ, hφ⟩ : ∃ φ, φ = g_pth τ root (g_T τ root) x (g_rk τ root t + 1) t := ⟨_, rfl⟩
        rw [htk, g_path hwf hr2 hT x _ t htP (Nat.le_refl _) hbit _ (fun u hu2 => hπP u (List.mem_of_mem_take (List.mem_reverse.mp hu2))), ← hφ] at hrun
        have hIr := g_I_run hwf hr2 hT x _ hI.1 g v hI (by rw [hrun])
        have hsp := g_run_sep hwf hr2 hT x _ hI.1 hI.2.1
        rw [hrun] at hIr hsp
        have hNs := g_N_small hwf hr2 hT hsp.2 hsp.1 (show r ≤ 16 by omega)
        have hll : φ.length + a ≤ 369 := by
          have q := hIr.2
          simp only [List.length_append, List.length_reverse, List.length_take] at q
          omega
        have hfx : (fun x => g_Nx τ root (g_T τ root) x π.reverse r) x = g_N τ root (φ.reverse ++ (π.take a).reverse) r := by
          show g_Nx τ root (g_T τ root) x π.reverse r = _
          unfold g_Nx
          rw [hrun, if_pos rfl]
        refine j_istore C 19 (lv' := [(8, .int (nI (a))), (7, .int (nI (x))), (5, .long (lN l1)), (0, .ref (ad 8)), (1, .int (nI (r))), (2, .long (lN l)), (4, .ref (ad 3))]) dX1_spellNext_19 (by rw [hn]; decide) rfl ?_
        refine j_iload C 21 0 dX1_spellNext_21 rfl ?_
        refine j_iconst C 23 (v := -1) dX1_spellNext_23 rfl ?_
        refine j_icmp_eq C 24 81 dX1_spellNext_24 (by decide) (fun h => absurd h (e_nm1 (by omega))) (fun _ => ?_)
        refine j_aload_n C 27 3 dX1_spellNext_27 rfl rfl ?_
        refine j_aload_n C 28 3 dX1_spellNext_28 rfl rfl ?_
        refine j_get C 29 (ci := 1) hL rfl 8 (wd_o8 ad ro c Z1 L1) 3 (by decide) f9 rfl (v := .ref (ad 24)) rfl dX1_spellNext_29 ?_
        refine j_iload C 32 0 dX1_spellNext_32 rfl ?_
        refine j_iald C 34 24 0 (f := Z1 24) (wd_a24 ad ro c Z1 L1) rfl (by omega) (by decide) dX1_spellNext_34 ?_
        refine j_eqi hfe ?_
        refine j_iload C 35 1 dX1_spellNext_35 rfl ?_
        refine j_callV (mc := 0) (ms := 0) C 37 (c_X1_goDown (jl κ) D ad ro c Z1 L1 t x hwf hr2 hE1 hST1 hT htP hx8 hbit) gX1_spellNext_X1_goDown rfl rfl rfl hd_X1_goDown (by rw [hR]; exact ⟨Nat.le_of_ble_eq_true rfl, Nat.le_of_ble_eq_true rfl⟩) (ci := 1) rfl 8 (wd_o8 ad ro c Z1 L1) rfl (Nat.le_of_ble_eq_true rfl) ⟨Nat.zero_le _, Nat.zero_le _⟩ dX1_spellNext_37 (fun Z2 q37 => ?_)
        obtain ⟨g25, g49, g23, gP, gfr⟩ := q37
        rw [← hφ] at g25 g49 g23 gP
        refine j_aload_n C 40 3 dX1_spellNext_40 rfl rfl ?_
        refine j_iload C 41 0 dX1_spellNext_41 rfl ?_
        refine j_iload_n C 43 4 dX1_spellNext_43 rfl rfl ?_
        refine j_callL (mc := 0) (ms := 0) C 44 (c_X1_wordsAhead (jl κ) D ad ro c Z2 L1 π φ a r hwf hr2 g25 g49 g23 gP (Nat.le_of_lt ha) (by omega) hWY1 hCN1 (by omega)) gX1_spellNext_X1_wordsAhead rfl rfl rfl hd_X1_wordsAhead (by rw [hR]; exact ⟨Nat.le_of_ble_eq_true rfl, Nat.le_of_ble_eq_true rfl⟩) (ci := 1) rfl 8 (wd_o8 ad ro c Z2 L1) rfl (Nat.le_of_ble_eq_true rfl) ⟨Nat.zero_le _, Nat.zero_le _⟩ dX1_spellNext_44 (fun r44 f44 e44 => ?_)
        subst e44
        refine j_lstore C 47 (lv' := [(9, .long (lN (g_N τ root (φ.reverse ++ (π.take a).reverse) r))), (8, .int (nI (a))), (7, .int (nI (x))), (5, .long (lN l1)), (0, .ref (ad 8)), (1, .int (nI (r))), (2, .long (lN l)), (4, .ref (ad 3))]) dX1_spellNext_47 (by rw [hn]; decide) rfl ?_
        refine j_lload C 49 3 dX1_spellNext_49 rfl ?_
        refine j_lload C 51 0 dX1_spellNext_51 rfl ?_
        refine j_lcmp C 53 dX1_spellNext_53 ?_
        refine j_if_ge C 54 74 dX1_spellNext_54 (by decide) (fun h54 => ?_) (fun h54 => ?_)
        · have hno : ¬ l1 < g_N τ root (φ.reverse ++ (π.take a).reverse) r := by
            have q := (lg_cmp_ge _ _).mp h54
            rw [pk_lLE (by omega) (by omega)] at q
            omega
          refine j_lload C 74 3 dX1_spellNext_74 rfl ?_
          refine j_lload C 76 0 dX1_spellNext_76 rfl ?_
          refine j_lsub_e C 78 dX1_spellNext_78 (lN_sub (by omega)) ?_
          refine j_lstore C 79 (lv' := [(5, .long (lN (l1 - g_N τ root (φ.reverse ++ (π.take a).reverse) r))), (9, .long (lN (g_N τ root (φ.reverse ++ (π.take a).reverse) r))), (8, .int (nI (a))), (7, .int (nI (x))), (0, .ref (ad 8)), (1, .int (nI (r))), (2, .long (lN l)), (4, .ref (ad 3))]) dX1_spellNext_79 (by rw [hn]; decide) rfl ?_
          refine j_iinc C 81 3 (v := (nI (x + 1))) (lv' := [(7, .int (nI (x + 1))), (5, .long (lN (l1 - g_N τ root (φ.reverse ++ (π.take a).reverse) r))), (9, .long (lN (g_N τ root (φ.reverse ++ (π.take a).reverse) r))), (8, .int (nI (a))), (0, .ref (ad 8)), (1, .int (nI (r))), (2, .long (lN l)), (4, .ref (ad 3))]) dX1_spellNext_81 rfl (nI_add (x) 1) (by rw [hn]; decide) rfl ?_
          refine j_goto C 84 6 dX1_spellNext_84 (by decide) ?_
          have e1 := g_pk_no (f := (fun x => g_Nx τ root (g_T τ root) x π.reverse r)) (k := k) (l := l1) hfx hno
          have hn2 := g_sp_next (f := (fun x => g_Nx τ root (g_T τ root) x π.reverse r)) hfx hlt hno
          exact j_lv [0, 1, 4, 5, 6, 7] rfl (ih (x + 1) _ Z2 _ (by omega) (e1.symm.trans hpk) hn2 (by omega) (g_fr_trans hfr gfr) (g_fl_up hfl (by decide) _) _ rfl)
        · have hyes : l1 < (fun x => g_Nx τ root (g_T τ root) x π.reverse r) x := by
            rw [hfx]
            refine Nat.lt_of_not_le (fun z => h54 ((lg_cmp_ge _ _).mpr ?_))
            rw [pk_lLE (by omega) (by omega)]; exact z
          refine j_aload_n C 57 4 dX1_spellNext_57 rfl rfl ?_
          refine j_iload C 58 1 dX1_spellNext_58 rfl ?_
          refine j_iload_n C 60 5 dX1_spellNext_60 rfl rfl ?_
          refine j_callV (mc := 0) (ms := 0) C 61 (c_X1_takeFresh (jl κ) D ad ro c Z2 (upR L1 29 f44) π φ a r hwf hr2 g25 g49 g23 gP (Nat.le_of_lt ha) (by rw [gfr 24 (by decide)]; exact hpi1) (by omega) (by exact hWY1) (fun u hu j hj => by show upR L1 29 f44 (100 + u) j = _; rw [upR_ne _ _ (by omega)]; exact hCN1 u hu j hj) (by omega)) gX1_spellNext_X1_takeFresh rfl rfl rfl hd_X1_takeFresh (by rw [hR]; exact ⟨Nat.le_of_ble_eq_true rfl, Nat.le_of_ble_eq_true rfl⟩) (ci := 1) rfl 8 (wd_o8 ad ro c Z2 (upR L1 29 f44)) rfl (Nat.le_of_ble_eq_true rfl) ⟨Nat.zero_le _, Nat.zero_le _⟩ dX1_spellNext_61 (fun u61 q61 => ?_)
          obtain ⟨t24, t48, tWY, tfr, tfl⟩ := q61
          have hfr2 : g_fr [24, 25, 48, 49] Z u61.1 := g_fr_trans (g_fr_sub hfr (by decide)) (g_fr_trans (g_fr_sub gfr (by decide)) (g_fr_sub tfr (by decide)))
          have hwd2 := g_WD_fr hfr2 (by decide) hwd
          have hfl2 : g_fl [28, 29] L u61.2 := g_fl_trans (g_fl_up (g_fl_sub hfl (by decide)) (by decide) _) (g_fl_sub tfl (by decide))
          refine j_aload C 64 7 dX1_spellNext_64 rfl ?_
          refine j_iload C 66 2 dX1_spellNext_66 rfl ?_
          refine j_callV (mc := 0) (ms := 0) C 68 (c_X6_add (jl κ) D ad ro c u61.1 u61.2 (nI x) w.length hwd2.2.1 hwl) gX1_spellNext_X6_add rfl rfl rfl hd_X6_add (by rw [hR]; exact ⟨Nat.le_of_ble_eq_true rfl, Nat.le_of_ble_eq_true rfl⟩) (ci := 6) rfl 3 (wd_o3 ad ro c u61.1 u61.2) rfl (Nat.le_of_ble_eq_true rfl) ⟨Nat.zero_le _, Nat.zero_le _⟩ dX1_spellNext_68 (fun _ _ => ?_)
          refine j_lload C 71 3 dX1_spellNext_71 rfl ?_
          have e1 : (x, l1) = g_pk (fun x => g_Nx τ root (g_T τ root) x π.reverse r) 8 0 l := by rw [← hpk]; exact (g_pk_yes (f := (fun x => g_Nx τ root (g_T τ root) x π.reverse r)) (x := x) hyes).symm
          have hP : (fun (x9 : Int64) (u : ZT × LT) => x9 = lN (g_pk (fun x => g_Nx τ root (g_T τ root) x π.reverse r) 8 0 l).2 ∧ g_SP τ root r (w ++ [(g_pk (fun x => g_Nx τ root (g_T τ root) x π.reverse r) 8 0 l).1]) (g_run τ root (g_T τ root) (g_pk (fun x => g_Nx τ root (g_T τ root) x π.reverse r) 8 0 l).1 π.reverse).2.reverse u.1 u.2 ∧ g_fr [22, 24, 25, 42, 48, 49] Z u.1 ∧ g_fl [28, 29] L u.2) (lN l1) ((upR (upR u61.1 22 (upd (u61.1 22) w.length (nI x))) 42 (fun _ => nI (w.length + 1))), u61.2) := by
            show _ = lN _ ∧ g_SP _ _ _ _ _ _ _ ∧ _
            rw [← e1]
            show lN l1 = lN l1 ∧ g_SP τ root r (w ++ [x]) (g_run τ root _ x π.reverse).2.reverse _ _ ∧ _
            rw [hrun]
            have er : (φ.reverse ++ (π.take a).reverse).reverse = π.take a ++ φ := by simp
            refine ⟨rfl, ⟨?_, ?_, ?_, g_WD_push hwd2 hwl hx8⟩, g_fr_up (g_fr_up (g_fr_sub hfr2 (by decide)) (by decide) _) (by decide) _, hfl2⟩
            · show g_ar _ 0 (φ.reverse ++ (π.take a).reverse).reverse
              rw [er]; exact t24
            · show _ = nI (φ.reverse ++ (π.take a).reverse).reverse.length
              rw [er, List.length_append, List.length_take, Nat.min_eq_left (Nat.le_of_lt ha)]; exact t48
            · show g_WY τ root (φ.reverse ++ (π.take a).reverse).reverse r _
              rw [er]; exact tWY
          exact j_lreti C hr E (Nat.le_refl _) (Nat.le_refl _) ((upR (upR u61.1 22 (upd (u61.1 22) w.length (nI x))) 42 (fun _ => nI (w.length + 1))), u61.2) hP rfl dX1_spellNext_73
  refine j_lload_n C 0 2 dX1_spellNext_0 rfl rfl ?_
  refine j_lstore C 1 (lv' := [(5, .long (lN l)), (0, .ref (ad 8)), (1, .int (nI (r))), (2, .long (lN l)), (4, .ref (ad 3))]) dX1_spellNext_1 (by rw [hn]; decide) rfl ?_
  refine j_iconst C 3 (v := nI 0) dX1_spellNext_3 rfl ?_
  refine j_istore C 4 (lv' := [(7, .int (nI (0))), (5, .long (lN l)), (0, .ref (ad 8)), (1, .int (nI (r))), (2, .long (lN l)), (4, .ref (ad 3))]) dX1_spellNext_4 (by rw [hn]; decide) rfl ?_
  exact j_lv [0, 1, 2, 3, 4, 5] rfl (loop 8 0 l Z L rfl rfl hl8 (Nat.le_refl _) g_fr_rfl g_fl_rfl _ rfl)
