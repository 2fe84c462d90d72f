/-! the law's steps, one by one -/
def LX (D : va_G) (κ : Kx) (c : Nat → ClassId) (b L : Nat) (xs : Nat → Int32) : Prop := Cx D κ cL_law RL lw_tbl (tysG c) ∧ (jl κ).stackTraces = false ∧ xW (js κ) ∧ xS (jA κ) (js κ) (js κ).heap ∧ xN5 (js κ) ∧ va_X b L xs (js κ) (js κ).heap ∧ b < (js κ).heap.size ∧ ¬ jA κ b ∧ L ≤ 2560 ∧ jR κ = room_1 ∧ jn κ = 8
/-- how it goes on behind a step -/
def LN (D : va_G) (κ : Kx) (c : Nat → ClassId) (ro bd : Nat → Nat) (o b t x0 : Nat) : Prop := ∀ (ad : Nat → Nat) (Z : ZT) (Lz : LT) (ZM : ZT) (LM : LT) (out : Nat → Int64) (n : Nat) (τ : Tb) (w : List Nat) (st : Int32) (tr : List Nat) (cells slots : Nat), ad 0 = x0 → g_SD n τ w st tr Z Lz → g_SM n τ w st tr ZM → cells ≤ 104 + 4 * t → slots ≤ 19604 + 24 * t → J D κ cells slots 964 [(4, .int (nI (5 * t))), (0, .ref b), (1, .ref x0), (2, .ref (bd 0)), (3, .ref o)] [] (LW ad ro bd c Z Lz ZM LM o out)
theorem nI_n0 {k : Nat} (hk : k ≤ 4) (h : ¬ k = 0) : ¬ nI k = 0 := fun e => h ((nI_eq (by omega) (by decide)).mp (e.trans (show (0 : Int32) = nI 0 from rfl)))
theorem kb_leaf {n : Nat} {τ : Tb} {w : List Nat} {x : Int32} : k_leaf n x ≤ 4 := by unfold k_leaf; (repeat' split) <;> omega
theorem kb_variable {n : Nat} {τ : Tb} {w : List Nat} {x : Int32} : k_var n x ≤ 4 := by unfold k_var; (repeat' split) <;> omega
theorem kb_join {n : Nat} {τ : Tb} {w : List Nat} {a b : Int32} : k_join n τ a b ≤ 4 := by unfold k_join; (repeat' split) <;> omega
theorem kb_knot {n : Nat} {τ : Tb} {w : List Nat} {x a : Int32} : k_knot n τ x a ≤ 4 := by unfold k_knot; (repeat' split) <;> omega
theorem kb_fault {n : Nat} {τ : Tb} {w : List Nat} {x : Int32} : k_fault n x ≤ 4 := by unfold k_fault; (repeat' split) <;> omega
theorem kb_type {n : Nat} {τ : Tb} {w : List Nat} {x y : Int32} : k_type n τ x y ≤ 4 := by unfold k_type; (repeat' split) <;> omega
theorem kb_ix {n : Nat} {τ : Tb} {w : List Nat} {x : Int32} : k_ix n x ≤ 4 := by unfold k_ix; (repeat' split) <;> omega
theorem kb_read {n : Nat} {τ : Tb} {w : List Nat} {x : Int32} : k_read n τ w x ≤ 4 := by unfold k_read; (repeat' split) <;> omega
theorem kb_count {n : Nat} {τ : Tb} {w : List Nat} {x y : Int32} : k_count n τ x y ≤ 4 := by unfold k_count; (repeat' split) <;> omega
theorem kb_find {n : Nat} {τ : Tb} {x y : Int32} {l : Int64} : k_find n τ x y l ≤ 4 := by
  have := k_count_3 (n := n) (τ := τ) (x := x) (y := y)
  unfold k_find
  repeat' split
  all_goals omega
set_option maxHeartbeats 2000000 in
set_option maxRecDepth 100000 in
theorem law_0 {D : va_G} {κ : Kx} {c : Nat → ClassId} {b L : Nat} {xs : Nat → Int32} (X : LX D κ c b L xs) {t : Nat} (ht : 5 * t + 5 ≤ L) {ad ro bd : Nat → Nat} {Z : ZT} {Lz : LT} {ZM : ZT} {LM : LT} {o : Nat} {out : Nat → Int64} {n : Nat} {τ : Tb} {w : List Nat} {st : Int32} {tr : List Nat} (hSD : g_SD n τ w st tr Z Lz) (hSM : g_SM n τ w st tr ZM) (nxt : LN D κ c ro bd o b t (ad 0)) : J D κ (100 + 4 * t) (19580 + 24 * t) 124 [(4, .int (nI (5 * t))), (0, .ref b), (1, .ref (ad 0)), (2, .ref (bd 0)), (3, .ref o)] [] (LW ad ro bd c Z Lz ZM LM o out) := by
  obtain ⟨C, hst, hxw, hxs, hxn, hX, hbl, hbA, hL, hR, hn⟩ := id X
  refine j_aload_n C 124 2 dL_law_124 rfl rfl ?_
  refine j_aload_n C 125 1 dL_law_125 rfl rfl ?_
  refine j_iload C 126 0 dL_law_126 rfl ?_
  refine j_iconst C 128 (v := nI 1) dL_law_128 rfl ?_
  refine j_iadd_e C 129 (z := nI (5 * t + 1)) dL_law_129 (nI_add _ _) ?_
  refine j_sld C hX hbl hbA (by omega) 130 (by omega) dL_law_130 ?_
  refine j_aload_n C 131 4 dL_law_131 rfl rfl ?_
  refine j_scall (wr := (wm bd c ZM LM)) (mc := 2) (ms := 12) C hxw hxs hxn 132 (c_L_leaf (jl κ) hst D ad ro c Z Lz o out (xs (5 * t + 1)) hSD) gW_L_leaf rfl rfl rfl (show yL_leaf.cls ≠ "java/lang/invoke/MethodHandle" ∧ yL_leaf.cls ≠ "java/lang/invoke/VarHandle" ∧ (parseMethodDescriptor yL_leaf.desc).map (fun d => d.parameters.length) = some 3 from by decide +kernel) (by rw [hR]; exact ⟨Nat.le_of_ble_eq_true rfl, Nat.le_of_ble_eq_true rfl⟩) kA kM (LW_A ad ro bd c Z Lz ZM LM o out) kA_nd (LW_M ad ro bd c Z Lz ZM LM o out) kM_nd kAM rfl (Nat.le_of_ble_eq_true rfl) (by rw [hR]; exact ⟨show _ ≤ 601024 by omega, show _ ≤ 7293034 by omega⟩) dL_law_132 (fun r5 u5 q5 => ?_)
  refine j_pick kAb kAb_nd (LW_Ab u5.1 ro bd c u5.2.1 u5.2.2.1 ZM LM o u5.2.2.2) ?_
  obtain ⟨had, rfl, hok, hno⟩ := q5
  refine j_istore C 135 (lv' := [(5, .int (nI (k_leaf n (xs (5 * t + 1))))), (4, .int (nI (5 * t))), (0, .ref b), (1, .ref (ad 0)), (2, .ref (bd 0)), (3, .ref o)]) dL_law_135 (by rw [hn]; decide) rfl ?_
  refine j_aload_n C 137 4 dL_law_137 rfl rfl ?_
  refine j_aload_n C 138 2 dL_law_138 rfl rfl ?_
  refine j_iload C 139 1 dL_law_139 rfl ?_
  refine j_iconst C 141 (v := nI 1) dL_law_141 rfl ?_
  refine j_iadd_e C 142 (z := nI (5 * t + 1)) dL_law_142 (nI_add _ _) ?_
  refine j_sld C hX hbl hbA (by omega) 143 (by omega) dL_law_143 ?_
  refine j_callcI (wr := wO u5.1 ro c u5.2.1 u5.2.2.1 o u5.2.2.2) (mc := 0) (ms := 0) C 144 (c_X8_leaf (jl κ) D bd c ZM LM (xs (5 * t + 1)) hSM) gW_X8_leaf rfl rfl rfl hd_X8_leaf (by rw [hR]; exact ⟨Nat.le_of_ble_eq_true rfl, Nat.le_of_ble_eq_true rfl⟩) (ci := 8) rfl 0 (wm_o0 bd c ZM LM) kM kA (LW_M u5.1 ro bd c u5.2.1 u5.2.2.1 ZM LM o u5.2.2.2) kM_nd (LW_A u5.1 ro bd c u5.2.1 u5.2.2.1 ZM LM o u5.2.2.2) kA_nd kMA rfl (Nat.le_of_ble_eq_true rfl) (by rw [hR]; exact ⟨show _ ≤ 601024 by omega, show _ ≤ 7293034 by omega⟩) dL_law_144 (fun r6 u6 q6 => ?_)
  refine j_pick kMb kMb_nd (LW_Mb u5.1 ro bd c u5.2.1 u5.2.2.1 u6 LM o u5.2.2.2) ?_
  obtain ⟨h40, hok6, hno6⟩ := q6
  refine j_istore C 147 (lv' := [(6, .int r6), (5, .int (nI (k_leaf n (xs (5 * t + 1))))), (4, .int (nI (5 * t))), (0, .ref b), (1, .ref (ad 0)), (2, .ref (bd 0)), (3, .ref o)]) dL_law_147 (by rw [hn]; decide) rfl ?_
  refine j_aload_n C 149 5 dL_law_149 rfl rfl ?_
  refine j_callcI (wr := wO u5.1 ro c u5.2.1 u5.2.2.1 o u5.2.2.2) (mc := 0) (ms := 0) C 150 (c_X8_thrown (jl κ) D bd c u6 LM  ) gW_X8_thrown rfl rfl rfl hd_X8_thrown (by rw [hR]; exact ⟨Nat.le_of_ble_eq_true rfl, Nat.le_of_ble_eq_true rfl⟩) (ci := 8) rfl 0 (wm_o0 bd c u6 LM) kM kA (LW_M u5.1 ro bd c u5.2.1 u5.2.2.1 u6 LM o u5.2.2.2) kM_nd (LW_A u5.1 ro bd c u5.2.1 u5.2.2.1 u6 LM o u5.2.2.2) kA_nd kMA rfl (Nat.le_of_ble_eq_true rfl) (by rw [hR]; exact ⟨show _ ≤ 601024 by omega, show _ ≤ 7293034 by omega⟩) dL_law_150 (fun r7 u7 q7 => ?_)
  refine j_pick kMb kMb_nd (LW_Mb u5.1 ro bd c u5.2.1 u5.2.2.1 u6 LM o u5.2.2.2) ?_
  refine j_eqi (y := nI (k_leaf n (xs (5 * t + 1)))) (q7.trans h40) ?_
  refine j_iload C 153 1 dL_law_153 rfl ?_
  refine j_icmp_eq C 155 160 dL_law_155 (by decide) (fun _ => ?_) (fun h => absurd rfl h)
  by_cases hK : k_leaf n (xs (5 * t + 1)) = 0
  · refine j_iload C 160 1 dL_law_160 rfl ?_
    refine j_eqi (y := nI 0) (by rw [hK]) ?_
    refine j_if_ne C 162 177 dL_law_162 (by decide) (fun h => absurd (show nI 0 = 0 from rfl) h) (fun _ => ?_)
    refine j_aload_n C 165 6 dL_law_165 rfl rfl ?_
    refine j_iconst C 166 (v := nI 0) dL_law_166 rfl ?_
    refine j_lald C 167 99 2 (f := u5.2.2.2) (LW_o u5.1 ro bd c u5.2.1 u5.2.2.1 u6 LM o u5.2.2.2) rfl (by decide) (by decide) dL_law_167 ?_
    refine j_eql (y := (nI n).toInt64) ((hok hK).1) ?_
    refine j_iload C 168 0 dL_law_168 rfl ?_
    refine j_eqi (y := nI n) ((hok6 hK).1) ?_
    refine j_i2l C 170 (v := (nI n).toInt64) dL_law_170 rfl ?_
    refine j_lcmp C 171 dL_law_171 ?_
    refine j_eqi (y := 0) (lg_cmp0.mpr rfl) ?_
    refine j_if_eq C 172 177 dL_law_172 (by decide) (fun _ => ?_) (fun h => absurd rfl h)
    refine j_goto C 177 964 dL_law_177 (by decide) ?_
    exact j_lv [2, 3, 4, 5, 6] rfl (nxt u5.1 u5.2.1 u5.2.2.1 u6 LM u5.2.2.2 _ _ _ _ _ _ _ had ((hok hK).2) ((hok6 hK).2) (by omega) (by omega))
  · refine j_iload C 160 1 dL_law_160 rfl ?_
    refine j_if_ne C 162 177 dL_law_162 (by decide) (fun _ => ?_) (fun h => absurd h (nI_n0 (kb_leaf (τ := τ) (w := w)) hK))
    refine j_goto C 177 964 dL_law_177 (by decide) ?_
    exact j_lv [2, 3, 4, 5, 6] rfl (nxt u5.1 u5.2.1 u5.2.2.1 u6 LM u5.2.2.2 _ _ _ _ _ _ _ had (hno hK) (hno6 hK) (by omega) (by omega))
set_option maxHeartbeats 2000000 in
set_option maxRecDepth 100000 in
theorem law_1 {D : va_G} {κ : Kx} {c : Nat → ClassId} {b L : Nat} {xs : Nat → Int32} (X : LX D κ c b L xs) {t : Nat} (ht : 5 * t + 5 ≤ L) {ad ro bd : Nat → Nat} {Z : ZT} {Lz : LT} {ZM : ZT} {LM : LT} {o : Nat} {out : Nat → Int64} {n : Nat} {τ : Tb} {w : List Nat} {st : Int32} {tr : List Nat} (hSD : g_SD n τ w st tr Z Lz) (hSM : g_SM n τ w st tr ZM) (nxt : LN D κ c ro bd o b t (ad 0)) : J D κ (100 + 4 * t) (19580 + 24 * t) 180 [(4, .int (nI (5 * t))), (0, .ref b), (1, .ref (ad 0)), (2, .ref (bd 0)), (3, .ref o)] [] (LW ad ro bd c Z Lz ZM LM o out) := by
  obtain ⟨C, hst, hxw, hxs, hxn, hX, hbl, hbA, hL, hR, hn⟩ := id X
  refine j_aload_n C 180 2 dL_law_180 rfl rfl ?_
  refine j_aload_n C 181 1 dL_law_181 rfl rfl ?_
  refine j_iload C 182 0 dL_law_182 rfl ?_
  refine j_iconst C 184 (v := nI 1) dL_law_184 rfl ?_
  refine j_iadd_e C 185 (z := nI (5 * t + 1)) dL_law_185 (nI_add _ _) ?_
  refine j_sld C hX hbl hbA (by omega) 186 (by omega) dL_law_186 ?_
  refine j_aload_n C 187 4 dL_law_187 rfl rfl ?_
  refine j_scall (wr := (wm bd c ZM LM)) (mc := 2) (ms := 12) C hxw hxs hxn 188 (c_L_variable (jl κ) hst D ad ro c Z Lz o out (xs (5 * t + 1)) hSD) gW_L_variable rfl rfl rfl (show yL_variable.cls ≠ "java/lang/invoke/MethodHandle" ∧ yL_variable.cls ≠ "java/lang/invoke/VarHandle" ∧ (parseMethodDescriptor yL_variable.desc).map (fun d => d.parameters.length) = some 3 from by decide +kernel) (by rw [hR]; exact ⟨Nat.le_of_ble_eq_true rfl, Nat.le_of_ble_eq_true rfl⟩) kA kM (LW_A ad ro bd c Z Lz ZM LM o out) kA_nd (LW_M ad ro bd c Z Lz ZM LM o out) kM_nd kAM rfl (Nat.le_of_ble_eq_true rfl) (by rw [hR]; exact ⟨show _ ≤ 601024 by omega, show _ ≤ 7293034 by omega⟩) dL_law_188 (fun r5 u5 q5 => ?_)
  refine j_pick kAb kAb_nd (LW_Ab u5.1 ro bd c u5.2.1 u5.2.2.1 ZM LM o u5.2.2.2) ?_
  obtain ⟨had, rfl, hok, hno⟩ := q5
  refine j_istore C 191 (lv' := [(5, .int (nI (k_var n (xs (5 * t + 1))))), (4, .int (nI (5 * t))), (0, .ref b), (1, .ref (ad 0)), (2, .ref (bd 0)), (3, .ref o)]) dL_law_191 (by rw [hn]; decide) rfl ?_
  refine j_aload_n C 193 4 dL_law_193 rfl rfl ?_
  refine j_aload_n C 194 2 dL_law_194 rfl rfl ?_
  refine j_iload C 195 1 dL_law_195 rfl ?_
  refine j_iconst C 197 (v := nI 1) dL_law_197 rfl ?_
  refine j_iadd_e C 198 (z := nI (5 * t + 1)) dL_law_198 (nI_add _ _) ?_
  refine j_sld C hX hbl hbA (by omega) 199 (by omega) dL_law_199 ?_
  refine j_callcI (wr := wO u5.1 ro c u5.2.1 u5.2.2.1 o u5.2.2.2) (mc := 0) (ms := 0) C 200 (c_X8_variable (jl κ) D bd c ZM LM (xs (5 * t + 1)) hSM) gW_X8_variable rfl rfl rfl hd_X8_variable (by rw [hR]; exact ⟨Nat.le_of_ble_eq_true rfl, Nat.le_of_ble_eq_true rfl⟩) (ci := 8) rfl 0 (wm_o0 bd c ZM LM) kM kA (LW_M u5.1 ro bd c u5.2.1 u5.2.2.1 ZM LM o u5.2.2.2) kM_nd (LW_A u5.1 ro bd c u5.2.1 u5.2.2.1 ZM LM o u5.2.2.2) kA_nd kMA rfl (Nat.le_of_ble_eq_true rfl) (by rw [hR]; exact ⟨show _ ≤ 601024 by omega, show _ ≤ 7293034 by omega⟩) dL_law_200 (fun r6 u6 q6 => ?_)
  refine j_pick kMb kMb_nd (LW_Mb u5.1 ro bd c u5.2.1 u5.2.2.1 u6 LM o u5.2.2.2) ?_
  obtain ⟨h40, hok6, hno6⟩ := q6
  refine j_istore C 203 (lv' := [(6, .int r6), (5, .int (nI (k_var n (xs (5 * t + 1))))), (4, .int (nI (5 * t))), (0, .ref b), (1, .ref (ad 0)), (2, .ref (bd 0)), (3, .ref o)]) dL_law_203 (by rw [hn]; decide) rfl ?_
  refine j_aload_n C 205 5 dL_law_205 rfl rfl ?_
  refine j_callcI (wr := wO u5.1 ro c u5.2.1 u5.2.2.1 o u5.2.2.2) (mc := 0) (ms := 0) C 206 (c_X8_thrown (jl κ) D bd c u6 LM  ) gW_X8_thrown rfl rfl rfl hd_X8_thrown (by rw [hR]; exact ⟨Nat.le_of_ble_eq_true rfl, Nat.le_of_ble_eq_true rfl⟩) (ci := 8) rfl 0 (wm_o0 bd c u6 LM) kM kA (LW_M u5.1 ro bd c u5.2.1 u5.2.2.1 u6 LM o u5.2.2.2) kM_nd (LW_A u5.1 ro bd c u5.2.1 u5.2.2.1 u6 LM o u5.2.2.2) kA_nd kMA rfl (Nat.le_of_ble_eq_true rfl) (by rw [hR]; exact ⟨show _ ≤ 601024 by omega, show _ ≤ 7293034 by omega⟩) dL_law_206 (fun r7 u7 q7 => ?_)
  refine j_pick kMb kMb_nd (LW_Mb u5.1 ro bd c u5.2.1 u5.2.2.1 u6 LM o u5.2.2.2) ?_
  refine j_eqi (y := nI (k_var n (xs (5 * t + 1)))) (q7.trans h40) ?_
  refine j_iload C 209 1 dL_law_209 rfl ?_
  refine j_icmp_eq C 211 216 dL_law_211 (by decide) (fun _ => ?_) (fun h => absurd rfl h)
  by_cases hK : k_var n (xs (5 * t + 1)) = 0
  · refine j_iload C 216 1 dL_law_216 rfl ?_
    refine j_eqi (y := nI 0) (by rw [hK]) ?_
    refine j_if_ne C 218 233 dL_law_218 (by decide) (fun h => absurd (show nI 0 = 0 from rfl) h) (fun _ => ?_)
    refine j_aload_n C 221 6 dL_law_221 rfl rfl ?_
    refine j_iconst C 222 (v := nI 0) dL_law_222 rfl ?_
    refine j_lald C 223 99 2 (f := u5.2.2.2) (LW_o u5.1 ro bd c u5.2.1 u5.2.2.1 u6 LM o u5.2.2.2) rfl (by decide) (by decide) dL_law_223 ?_
    refine j_eql (y := (nI n).toInt64) ((hok hK).1) ?_
    refine j_iload C 224 0 dL_law_224 rfl ?_
    refine j_eqi (y := nI n) ((hok6 hK).1) ?_
    refine j_i2l C 226 (v := (nI n).toInt64) dL_law_226 rfl ?_
    refine j_lcmp C 227 dL_law_227 ?_
    refine j_eqi (y := 0) (lg_cmp0.mpr rfl) ?_
    refine j_if_eq C 228 233 dL_law_228 (by decide) (fun _ => ?_) (fun h => absurd rfl h)
    refine j_goto C 233 964 dL_law_233 (by decide) ?_
    exact j_lv [2, 3, 4, 5, 6] rfl (nxt u5.1 u5.2.1 u5.2.2.1 u6 LM u5.2.2.2 _ _ _ _ _ _ _ had ((hok hK).2) ((hok6 hK).2) (by omega) (by omega))
  · refine j_iload C 216 1 dL_law_216 rfl ?_
    refine j_if_ne C 218 233 dL_law_218 (by decide) (fun _ => ?_) (fun h => absurd h (nI_n0 (kb_variable (τ := τ) (w := w)) hK))
    refine j_goto C 233 964 dL_law_233 (by decide) ?_
    exact j_lv [2, 3, 4, 5, 6] rfl (nxt u5.1 u5.2.1 u5.2.2.1 u6 LM u5.2.2.2 _ _ _ _ _ _ _ had (hno hK) (hno6 hK) (by omega) (by omega))
set_option maxHeartbeats 2000000 in
set_option maxRecDepth 100000 in
theorem law_2 {D : va_G} {κ : Kx} {c : Nat → ClassId} {b L : Nat} {xs : Nat → Int32} (X : LX D κ c b L xs) {t : Nat} (ht : 5 * t + 5 ≤ L) {ad ro bd : Nat → Nat} {Z : ZT} {Lz : LT} {ZM : ZT} {LM : LT} {o : Nat} {out : Nat → Int64} {n : Nat} {τ : Tb} {w : List Nat} {st : Int32} {tr : List Nat} (hSD : g_SD n τ w st tr Z Lz) (hSM : g_SM n τ w st tr ZM) (nxt : LN D κ c ro bd o b t (ad 0)) : J D κ (100 + 4 * t) (19580 + 24 * t) 236 [(4, .int (nI (5 * t))), (0, .ref b), (1, .ref (ad 0)), (2, .ref (bd 0)), (3, .ref o)] [] (LW ad ro bd c Z Lz ZM LM o out) := by
  obtain ⟨C, hst, hxw, hxs, hxn, hX, hbl, hbA, hL, hR, hn⟩ := id X
  by_cases h3 : xs (5 * t + 3) = 0
  · refine j_aload_n C 236 2 dL_law_236 rfl rfl ?_
    refine j_aload_n C 237 1 dL_law_237 rfl rfl ?_
    refine j_iload C 238 0 dL_law_238 rfl ?_
    refine j_iconst C 240 (v := nI 1) dL_law_240 rfl ?_
    refine j_iadd_e C 241 (z := nI (5 * t + 1)) dL_law_241 (nI_add _ _) ?_
    refine j_sld C hX hbl hbA (by omega) 242 (by omega) dL_law_242 ?_
    refine j_aload_n C 243 1 dL_law_243 rfl rfl ?_
    refine j_iload C 244 0 dL_law_244 rfl ?_
    refine j_iconst C 246 (v := nI 2) dL_law_246 rfl ?_
    refine j_iadd_e C 247 (z := nI (5 * t + 2)) dL_law_247 (nI_add _ _) ?_
    refine j_sld C hX hbl hbA (by omega) 248 (by omega) dL_law_248 ?_
    refine j_aload_n C 249 1 dL_law_249 rfl rfl ?_
    refine j_iload C 250 0 dL_law_250 rfl ?_
    refine j_iconst C 252 (v := nI 3) dL_law_252 rfl ?_
    refine j_iadd_e C 253 (z := nI (5 * t + 3)) dL_law_253 (nI_add _ _) ?_
    refine j_sld C hX hbl hbA (by omega) 254 (by omega) dL_law_254 ?_
    refine j_if_eq C 255 262 dL_law_255 (by decide) (fun _ => ?_) (fun h => absurd h3 h)
    refine j_iconst C 262 (v := nI 0) dL_law_262 rfl ?_
    refine j_aload_n C 263 4 dL_law_263 rfl rfl ?_
    refine j_scall (wr := (wm bd c ZM LM)) (mc := 4) (ms := 24) C hxw hxs hxn 264 (c_L_join (jl κ) hst D ad ro c Z Lz o out (xs (5 * t + 1)) (xs (5 * t + 2)) false hSD) gW_L_join rfl rfl rfl (show yL_join.cls ≠ "java/lang/invoke/MethodHandle" ∧ yL_join.cls ≠ "java/lang/invoke/VarHandle" ∧ (parseMethodDescriptor yL_join.desc).map (fun d => d.parameters.length) = some 5 from by decide +kernel) (by rw [hR]; exact ⟨Nat.le_of_ble_eq_true rfl, Nat.le_of_ble_eq_true rfl⟩) kA kM (LW_A ad ro bd c Z Lz ZM LM o out) kA_nd (LW_M ad ro bd c Z Lz ZM LM o out) kM_nd kAM rfl (Nat.le_of_ble_eq_true rfl) (by rw [hR]; exact ⟨show _ ≤ 601024 by omega, show _ ≤ 7293034 by omega⟩) dL_law_264 (fun r5 u5 q5 => ?_)
    refine j_pick kAb kAb_nd (LW_Ab u5.1 ro bd c u5.2.1 u5.2.2.1 ZM LM o u5.2.2.2) ?_
    obtain ⟨had, rfl, hok, hno⟩ := q5
    refine j_istore C 267 (lv' := [(5, .int (nI (k_join n τ (xs (5 * t + 1)) (xs (5 * t + 2))))), (4, .int (nI (5 * t))), (0, .ref b), (1, .ref (ad 0)), (2, .ref (bd 0)), (3, .ref o)]) dL_law_267 (by rw [hn]; decide) rfl ?_
    refine j_aload_n C 269 4 dL_law_269 rfl rfl ?_
    refine j_aload_n C 270 2 dL_law_270 rfl rfl ?_
    refine j_iload C 271 1 dL_law_271 rfl ?_
    refine j_iconst C 273 (v := nI 1) dL_law_273 rfl ?_
    refine j_iadd_e C 274 (z := nI (5 * t + 1)) dL_law_274 (nI_add _ _) ?_
    refine j_sld C hX hbl hbA (by omega) 275 (by omega) dL_law_275 ?_
    refine j_aload_n C 276 2 dL_law_276 rfl rfl ?_
    refine j_iload C 277 1 dL_law_277 rfl ?_
    refine j_iconst C 279 (v := nI 2) dL_law_279 rfl ?_
    refine j_iadd_e C 280 (z := nI (5 * t + 2)) dL_law_280 (nI_add _ _) ?_
    refine j_sld C hX hbl hbA (by omega) 281 (by omega) dL_law_281 ?_
    refine j_aload_n C 282 2 dL_law_282 rfl rfl ?_
    refine j_iload C 283 1 dL_law_283 rfl ?_
    refine j_iconst C 285 (v := nI 3) dL_law_285 rfl ?_
    refine j_iadd_e C 286 (z := nI (5 * t + 3)) dL_law_286 (nI_add _ _) ?_
    refine j_sld C hX hbl hbA (by omega) 287 (by omega) dL_law_287 ?_
    refine j_if_eq C 288 295 dL_law_288 (by decide) (fun _ => ?_) (fun h => absurd h3 h)
    refine j_iconst C 295 (v := nI 0) dL_law_295 rfl ?_
    refine j_callcI (wr := wO u5.1 ro c u5.2.1 u5.2.2.1 o u5.2.2.2) (mc := 0) (ms := 0) C 296 (c_X8_join (jl κ) D bd c ZM LM (xs (5 * t + 1)) (xs (5 * t + 2)) false hSM) gW_X8_join rfl rfl rfl hd_X8_join (by rw [hR]; exact ⟨Nat.le_of_ble_eq_true rfl, Nat.le_of_ble_eq_true rfl⟩) (ci := 8) rfl 0 (wm_o0 bd c ZM LM) kM kA (LW_M u5.1 ro bd c u5.2.1 u5.2.2.1 ZM LM o u5.2.2.2) kM_nd (LW_A u5.1 ro bd c u5.2.1 u5.2.2.1 ZM LM o u5.2.2.2) kA_nd kMA rfl (Nat.le_of_ble_eq_true rfl) (by rw [hR]; exact ⟨show _ ≤ 601024 by omega, show _ ≤ 7293034 by omega⟩) dL_law_296 (fun r6 u6 q6 => ?_)
    refine j_pick kMb kMb_nd (LW_Mb u5.1 ro bd c u5.2.1 u5.2.2.1 u6 LM o u5.2.2.2) ?_
    obtain ⟨h40, hok6, hno6⟩ := q6
    refine j_istore C 299 (lv' := [(6, .int r6), (5, .int (nI (k_join n τ (xs (5 * t + 1)) (xs (5 * t + 2))))), (4, .int (nI (5 * t))), (0, .ref b), (1, .ref (ad 0)), (2, .ref (bd 0)), (3, .ref o)]) dL_law_299 (by rw [hn]; decide) rfl ?_
    refine j_aload_n C 301 5 dL_law_301 rfl rfl ?_
    refine j_callcI (wr := wO u5.1 ro c u5.2.1 u5.2.2.1 o u5.2.2.2) (mc := 0) (ms := 0) C 302 (c_X8_thrown (jl κ) D bd c u6 LM  ) gW_X8_thrown rfl rfl rfl hd_X8_thrown (by rw [hR]; exact ⟨Nat.le_of_ble_eq_true rfl, Nat.le_of_ble_eq_true rfl⟩) (ci := 8) rfl 0 (wm_o0 bd c u6 LM) kM kA (LW_M u5.1 ro bd c u5.2.1 u5.2.2.1 u6 LM o u5.2.2.2) kM_nd (LW_A u5.1 ro bd c u5.2.1 u5.2.2.1 u6 LM o u5.2.2.2) kA_nd kMA rfl (Nat.le_of_ble_eq_true rfl) (by rw [hR]; exact ⟨show _ ≤ 601024 by omega, show _ ≤ 7293034 by omega⟩) dL_law_302 (fun r7 u7 q7 => ?_)
    refine j_pick kMb kMb_nd (LW_Mb u5.1 ro bd c u5.2.1 u5.2.2.1 u6 LM o u5.2.2.2) ?_
    refine j_eqi (y := nI (k_join n τ (xs (5 * t + 1)) (xs (5 * t + 2)))) (q7.trans h40) ?_
    refine j_iload C 305 1 dL_law_305 rfl ?_
    refine j_icmp_eq C 307 312 dL_law_307 (by decide) (fun _ => ?_) (fun h => absurd rfl h)
    by_cases hK : k_join n τ (xs (5 * t + 1)) (xs (5 * t + 2)) = 0
    · refine j_iload C 312 1 dL_law_312 rfl ?_
      refine j_eqi (y := nI 0) (by rw [hK]) ?_
      refine j_if_ne C 314 329 dL_law_314 (by decide) (fun h => absurd (show nI 0 = 0 from rfl) h) (fun _ => ?_)
      refine j_aload_n C 317 6 dL_law_317 rfl rfl ?_
      refine j_iconst C 318 (v := nI 0) dL_law_318 rfl ?_
      refine j_lald C 319 99 2 (f := u5.2.2.2) (LW_o u5.1 ro bd c u5.2.1 u5.2.2.1 u6 LM o u5.2.2.2) rfl (by decide) (by decide) dL_law_319 ?_
      refine j_eql (y := (nI n).toInt64) ((hok hK).1) ?_
      refine j_iload C 320 0 dL_law_320 rfl ?_
      refine j_eqi (y := nI n) ((hok6 hK).1) ?_
      refine j_i2l C 322 (v := (nI n).toInt64) dL_law_322 rfl ?_
      refine j_lcmp C 323 dL_law_323 ?_
      refine j_eqi (y := 0) (lg_cmp0.mpr rfl) ?_
      refine j_if_eq C 324 329 dL_law_324 (by decide) (fun _ => ?_) (fun h => absurd rfl h)
      refine j_goto C 329 964 dL_law_329 (by decide) ?_
      exact j_lv [2, 3, 4, 5, 6] rfl (nxt u5.1 u5.2.1 u5.2.2.1 u6 LM u5.2.2.2 _ _ _ _ _ _ _ had ((hok hK).2) ((hok6 hK).2) (by omega) (by omega))
    · refine j_iload C 312 1 dL_law_312 rfl ?_
      refine j_if_ne C 314 329 dL_law_314 (by decide) (fun _ => ?_) (fun h => absurd h (nI_n0 (kb_join (τ := τ) (w := w)) hK))
      refine j_goto C 329 964 dL_law_329 (by decide) ?_
      exact j_lv [2, 3, 4, 5, 6] rfl (nxt u5.1 u5.2.1 u5.2.2.1 u6 LM u5.2.2.2 _ _ _ _ _ _ _ had (hno hK) (hno6 hK) (by omega) (by omega))
  · refine j_aload_n C 236 2 dL_law_236 rfl rfl ?_
    refine j_aload_n C 237 1 dL_law_237 rfl rfl ?_
    refine j_iload C 238 0 dL_law_238 rfl ?_
    refine j_iconst C 240 (v := nI 1) dL_law_240 rfl ?_
    refine j_iadd_e C 241 (z := nI (5 * t + 1)) dL_law_241 (nI_add _ _) ?_
    refine j_sld C hX hbl hbA (by omega) 242 (by omega) dL_law_242 ?_
    refine j_aload_n C 243 1 dL_law_243 rfl rfl ?_
    refine j_iload C 244 0 dL_law_244 rfl ?_
    refine j_iconst C 246 (v := nI 2) dL_law_246 rfl ?_
    refine j_iadd_e C 247 (z := nI (5 * t + 2)) dL_law_247 (nI_add _ _) ?_
    refine j_sld C hX hbl hbA (by omega) 248 (by omega) dL_law_248 ?_
    refine j_aload_n C 249 1 dL_law_249 rfl rfl ?_
    refine j_iload C 250 0 dL_law_250 rfl ?_
    refine j_iconst C 252 (v := nI 3) dL_law_252 rfl ?_
    refine j_iadd_e C 253 (z := nI (5 * t + 3)) dL_law_253 (nI_add _ _) ?_
    refine j_sld C hX hbl hbA (by omega) 254 (by omega) dL_law_254 ?_
    refine j_if_eq C 255 262 dL_law_255 (by decide) (fun h => absurd h h3) (fun _ => ?_)
    refine j_iconst C 258 (v := nI 1) dL_law_258 rfl ?_
    refine j_goto C 259 263 dL_law_259 (by decide) ?_
    refine j_aload_n C 263 4 dL_law_263 rfl rfl ?_
    refine j_scall (wr := (wm bd c ZM LM)) (mc := 4) (ms := 24) C hxw hxs hxn 264 (c_L_join (jl κ) hst D ad ro c Z Lz o out (xs (5 * t + 1)) (xs (5 * t + 2)) true hSD) gW_L_join rfl rfl rfl (show yL_join.cls ≠ "java/lang/invoke/MethodHandle" ∧ yL_join.cls ≠ "java/lang/invoke/VarHandle" ∧ (parseMethodDescriptor yL_join.desc).map (fun d => d.parameters.length) = some 5 from by decide +kernel) (by rw [hR]; exact ⟨Nat.le_of_ble_eq_true rfl, Nat.le_of_ble_eq_true rfl⟩) kA kM (LW_A ad ro bd c Z Lz ZM LM o out) kA_nd (LW_M ad ro bd c Z Lz ZM LM o out) kM_nd kAM rfl (Nat.le_of_ble_eq_true rfl) (by rw [hR]; exact ⟨show _ ≤ 601024 by omega, show _ ≤ 7293034 by omega⟩) dL_law_264 (fun r5 u5 q5 => ?_)
    refine j_pick kAb kAb_nd (LW_Ab u5.1 ro bd c u5.2.1 u5.2.2.1 ZM LM o u5.2.2.2) ?_
    obtain ⟨had, rfl, hok, hno⟩ := q5
    refine j_istore C 267 (lv' := [(5, .int (nI (k_join n τ (xs (5 * t + 1)) (xs (5 * t + 2))))), (4, .int (nI (5 * t))), (0, .ref b), (1, .ref (ad 0)), (2, .ref (bd 0)), (3, .ref o)]) dL_law_267 (by rw [hn]; decide) rfl ?_
    refine j_aload_n C 269 4 dL_law_269 rfl rfl ?_
    refine j_aload_n C 270 2 dL_law_270 rfl rfl ?_
    refine j_iload C 271 1 dL_law_271 rfl ?_
    refine j_iconst C 273 (v := nI 1) dL_law_273 rfl ?_
    refine j_iadd_e C 274 (z := nI (5 * t + 1)) dL_law_274 (nI_add _ _) ?_
    refine j_sld C hX hbl hbA (by omega) 275 (by omega) dL_law_275 ?_
    refine j_aload_n C 276 2 dL_law_276 rfl rfl ?_
    refine j_iload C 277 1 dL_law_277 rfl ?_
    refine j_iconst C 279 (v := nI 2) dL_law_279 rfl ?_
    refine j_iadd_e C 280 (z := nI (5 * t + 2)) dL_law_280 (nI_add _ _) ?_
    refine j_sld C hX hbl hbA (by omega) 281 (by omega) dL_law_281 ?_
    refine j_aload_n C 282 2 dL_law_282 rfl rfl ?_
    refine j_iload C 283 1 dL_law_283 rfl ?_
    refine j_iconst C 285 (v := nI 3) dL_law_285 rfl ?_
    refine j_iadd_e C 286 (z := nI (5 * t + 3)) dL_law_286 (nI_add _ _) ?_
    refine j_sld C hX hbl hbA (by omega) 287 (by omega) dL_law_287 ?_
    refine j_if_eq C 288 295 dL_law_288 (by decide) (fun h => absurd h h3) (fun _ => ?_)
    refine j_iconst C 291 (v := nI 1) dL_law_291 rfl ?_
    refine j_goto C 292 296 dL_law_292 (by decide) ?_
    refine j_callcI (wr := wO u5.1 ro c u5.2.1 u5.2.2.1 o u5.2.2.2) (mc := 0) (ms := 0) C 296 (c_X8_join (jl κ) D bd c ZM LM (xs (5 * t + 1)) (xs (5 * t + 2)) true hSM) gW_X8_join rfl rfl rfl hd_X8_join (by rw [hR]; exact ⟨Nat.le_of_ble_eq_true rfl, Nat.le_of_ble_eq_true rfl⟩) (ci := 8) rfl 0 (wm_o0 bd c ZM LM) kM kA (LW_M u5.1 ro bd c u5.2.1 u5.2.2.1 ZM LM o u5.2.2.2) kM_nd (LW_A u5.1 ro bd c u5.2.1 u5.2.2.1 ZM LM o u5.2.2.2) kA_nd kMA rfl (Nat.le_of_ble_eq_true rfl) (by rw [hR]; exact ⟨show _ ≤ 601024 by omega, show _ ≤ 7293034 by omega⟩) dL_law_296 (fun r6 u6 q6 => ?_)
    refine j_pick kMb kMb_nd (LW_Mb u5.1 ro bd c u5.2.1 u5.2.2.1 u6 LM o u5.2.2.2) ?_
    obtain ⟨h40, hok6, hno6⟩ := q6
    refine j_istore C 299 (lv' := [(6, .int r6), (5, .int (nI (k_join n τ (xs (5 * t + 1)) (xs (5 * t + 2))))), (4, .int (nI (5 * t))), (0, .ref b), (1, .ref (ad 0)), (2, .ref (bd 0)), (3, .ref o)]) dL_law_299 (by rw [hn]; decide) rfl ?_
    refine j_aload_n C 301 5 dL_law_301 rfl rfl ?_
    refine j_callcI (wr := wO u5.1 ro c u5.2.1 u5.2.2.1 o u5.2.2.2) (mc := 0) (ms := 0) C 302 (c_X8_thrown (jl κ) D bd c u6 LM  ) gW_X8_thrown rfl rfl rfl hd_X8_thrown (by rw [hR]; exact ⟨Nat.le_of_ble_eq_true rfl, Nat.le_of_ble_eq_true rfl⟩) (ci := 8) rfl 0 (wm_o0 bd c u6 LM) kM kA (LW_M u5.1 ro bd c u5.2.1 u5.2.2.1 u6 LM o u5.2.2.2) kM_nd (LW_A u5.1 ro bd c u5.2.1 u5.2.2.1 u6 LM o u5.2.2.2) kA_nd kMA rfl (Nat.le_of_ble_eq_true rfl) (by rw [hR]; exact ⟨show _ ≤ 601024 by omega, show _ ≤ 7293034 by omega⟩) dL_law_302 (fun r7 u7 q7 => ?_)
    refine j_pick kMb kMb_nd (LW_Mb u5.1 ro bd c u5.2.1 u5.2.2.1 u6 LM o u5.2.2.2) ?_
    refine j_eqi (y := nI (k_join n τ (xs (5 * t + 1)) (xs (5 * t + 2)))) (q7.trans h40) ?_
    refine j_iload C 305 1 dL_law_305 rfl ?_
    refine j_icmp_eq C 307 312 dL_law_307 (by decide) (fun _ => ?_) (fun h => absurd rfl h)
    by_cases hK : k_join n τ (xs (5 * t + 1)) (xs (5 * t + 2)) = 0
    · refine j_iload C 312 1 dL_law_312 rfl ?_
      refine j_eqi (y := nI 0) (by rw [hK]) ?_
      refine j_if_ne C 314 329 dL_law_314 (by decide) (fun h => absurd (show nI 0 = 0 from rfl) h) (fun _ => ?_)
      refine j_aload_n C 317 6 dL_law_317 rfl rfl ?_
      refine j_iconst C 318 (v := nI 0) dL_law_318 rfl ?_
      refine j_lald C 319 99 2 (f := u5.2.2.2) (LW_o u5.1 ro bd c u5.2.1 u5.2.2.1 u6 LM o u5.2.2.2) rfl (by decide) (by decide) dL_law_319 ?_
      refine j_eql (y := (nI n).toInt64) ((hok hK).1) ?_
      refine j_iload C 320 0 dL_law_320 rfl ?_
      refine j_eqi (y := nI n) ((hok6 hK).1) ?_
      refine j_i2l C 322 (v := (nI n).toInt64) dL_law_322 rfl ?_
      refine j_lcmp C 323 dL_law_323 ?_
      refine j_eqi (y := 0) (lg_cmp0.mpr rfl) ?_
      refine j_if_eq C 324 329 dL_law_324 (by decide) (fun _ => ?_) (fun h => absurd rfl h)
      refine j_goto C 329 964 dL_law_329 (by decide) ?_
      exact j_lv [2, 3, 4, 5, 6] rfl (nxt u5.1 u5.2.1 u5.2.2.1 u6 LM u5.2.2.2 _ _ _ _ _ _ _ had ((hok hK).2) ((hok6 hK).2) (by omega) (by omega))
    · refine j_iload C 312 1 dL_law_312 rfl ?_
      refine j_if_ne C 314 329 dL_law_314 (by decide) (fun _ => ?_) (fun h => absurd h (nI_n0 (kb_join (τ := τ) (w := w)) hK))
      refine j_goto C 329 964 dL_law_329 (by decide) ?_
      exact j_lv [2, 3, 4, 5, 6] rfl (nxt u5.1 u5.2.1 u5.2.2.1 u6 LM u5.2.2.2 _ _ _ _ _ _ _ had (hno hK) (hno6 hK) (by omega) (by omega))
set_option maxHeartbeats 2000000 in
set_option maxRecDepth 100000 in
theorem law_3 {D : va_G} {κ : Kx} {c : Nat → ClassId} {b L : Nat} {xs : Nat → Int32} (X : LX D κ c b L xs) {t : Nat} (ht : 5 * t + 5 ≤ L) {ad ro bd : Nat → Nat} {Z : ZT} {Lz : LT} {ZM : ZT} {LM : LT} {o : Nat} {out : Nat → Int64} {n : Nat} {τ : Tb} {w : List Nat} {st : Int32} {tr : List Nat} (hSD : g_SD n τ w st tr Z Lz) (hSM : g_SM n τ w st tr ZM) (nxt : LN D κ c ro bd o b t (ad 0)) : J D κ (100 + 4 * t) (19580 + 24 * t) 332 [(4, .int (nI (5 * t))), (0, .ref b), (1, .ref (ad 0)), (2, .ref (bd 0)), (3, .ref o)] [] (LW ad ro bd c Z Lz ZM LM o out) := by
  obtain ⟨C, hst, hxw, hxs, hxn, hX, hbl, hbA, hL, hR, hn⟩ := id X
  refine j_aload_n C 332 2 dL_law_332 rfl rfl ?_
  refine j_aload_n C 333 1 dL_law_333 rfl rfl ?_
  refine j_iload C 334 0 dL_law_334 rfl ?_
  refine j_iconst C 336 (v := nI 1) dL_law_336 rfl ?_
  refine j_iadd_e C 337 (z := nI (5 * t + 1)) dL_law_337 (nI_add _ _) ?_
  refine j_sld C hX hbl hbA (by omega) 338 (by omega) dL_law_338 ?_
  refine j_aload_n C 339 1 dL_law_339 rfl rfl ?_
  refine j_iload C 340 0 dL_law_340 rfl ?_
  refine j_iconst C 342 (v := nI 2) dL_law_342 rfl ?_
  refine j_iadd_e C 343 (z := nI (5 * t + 2)) dL_law_343 (nI_add _ _) ?_
  refine j_sld C hX hbl hbA (by omega) 344 (by omega) dL_law_344 ?_
  refine j_aload_n C 345 4 dL_law_345 rfl rfl ?_
  refine j_scall (wr := (wm bd c ZM LM)) (mc := 4) (ms := 24) C hxw hxs hxn 346 (c_L_knot (jl κ) hst D ad ro c Z Lz o out (xs (5 * t + 1)) (xs (5 * t + 2)) hSD) gW_L_knot rfl rfl rfl (show yL_knot.cls ≠ "java/lang/invoke/MethodHandle" ∧ yL_knot.cls ≠ "java/lang/invoke/VarHandle" ∧ (parseMethodDescriptor yL_knot.desc).map (fun d => d.parameters.length) = some 4 from by decide +kernel) (by rw [hR]; exact ⟨Nat.le_of_ble_eq_true rfl, Nat.le_of_ble_eq_true rfl⟩) kA kM (LW_A ad ro bd c Z Lz ZM LM o out) kA_nd (LW_M ad ro bd c Z Lz ZM LM o out) kM_nd kAM rfl (Nat.le_of_ble_eq_true rfl) (by rw [hR]; exact ⟨show _ ≤ 601024 by omega, show _ ≤ 7293034 by omega⟩) dL_law_346 (fun r5 u5 q5 => ?_)
  refine j_pick kAb kAb_nd (LW_Ab u5.1 ro bd c u5.2.1 u5.2.2.1 ZM LM o u5.2.2.2) ?_
  obtain ⟨had, rfl, hok, hno⟩ := q5
  refine j_istore C 349 (lv' := [(5, .int (nI (k_knot n τ (xs (5 * t + 1)) (xs (5 * t + 2))))), (4, .int (nI (5 * t))), (0, .ref b), (1, .ref (ad 0)), (2, .ref (bd 0)), (3, .ref o)]) dL_law_349 (by rw [hn]; decide) rfl ?_
  refine j_aload_n C 351 4 dL_law_351 rfl rfl ?_
  refine j_aload_n C 352 2 dL_law_352 rfl rfl ?_
  refine j_iload C 353 1 dL_law_353 rfl ?_
  refine j_iconst C 355 (v := nI 1) dL_law_355 rfl ?_
  refine j_iadd_e C 356 (z := nI (5 * t + 1)) dL_law_356 (nI_add _ _) ?_
  refine j_sld C hX hbl hbA (by omega) 357 (by omega) dL_law_357 ?_
  refine j_aload_n C 358 2 dL_law_358 rfl rfl ?_
  refine j_iload C 359 1 dL_law_359 rfl ?_
  refine j_iconst C 361 (v := nI 2) dL_law_361 rfl ?_
  refine j_iadd_e C 362 (z := nI (5 * t + 2)) dL_law_362 (nI_add _ _) ?_
  refine j_sld C hX hbl hbA (by omega) 363 (by omega) dL_law_363 ?_
  refine j_callcI (wr := wO u5.1 ro c u5.2.1 u5.2.2.1 o u5.2.2.2) (mc := 0) (ms := 0) C 364 (c_X8_knot (jl κ) D bd c ZM LM (xs (5 * t + 1)) (xs (5 * t + 2)) hSM) gW_X8_knot rfl rfl rfl hd_X8_knot (by rw [hR]; exact ⟨Nat.le_of_ble_eq_true rfl, Nat.le_of_ble_eq_true rfl⟩) (ci := 8) rfl 0 (wm_o0 bd c ZM LM) kM kA (LW_M u5.1 ro bd c u5.2.1 u5.2.2.1 ZM LM o u5.2.2.2) kM_nd (LW_A u5.1 ro bd c u5.2.1 u5.2.2.1 ZM LM o u5.2.2.2) kA_nd kMA rfl (Nat.le_of_ble_eq_true rfl) (by rw [hR]; exact ⟨show _ ≤ 601024 by omega, show _ ≤ 7293034 by omega⟩) dL_law_364 (fun r6 u6 q6 => ?_)
  refine j_pick kMb kMb_nd (LW_Mb u5.1 ro bd c u5.2.1 u5.2.2.1 u6 LM o u5.2.2.2) ?_
  obtain ⟨h40, hok6, hno6⟩ := q6
  refine j_istore C 367 (lv' := [(6, .int r6), (5, .int (nI (k_knot n τ (xs (5 * t + 1)) (xs (5 * t + 2))))), (4, .int (nI (5 * t))), (0, .ref b), (1, .ref (ad 0)), (2, .ref (bd 0)), (3, .ref o)]) dL_law_367 (by rw [hn]; decide) rfl ?_
  refine j_aload_n C 369 5 dL_law_369 rfl rfl ?_
  refine j_callcI (wr := wO u5.1 ro c u5.2.1 u5.2.2.1 o u5.2.2.2) (mc := 0) (ms := 0) C 370 (c_X8_thrown (jl κ) D bd c u6 LM  ) gW_X8_thrown rfl rfl rfl hd_X8_thrown (by rw [hR]; exact ⟨Nat.le_of_ble_eq_true rfl, Nat.le_of_ble_eq_true rfl⟩) (ci := 8) rfl 0 (wm_o0 bd c u6 LM) kM kA (LW_M u5.1 ro bd c u5.2.1 u5.2.2.1 u6 LM o u5.2.2.2) kM_nd (LW_A u5.1 ro bd c u5.2.1 u5.2.2.1 u6 LM o u5.2.2.2) kA_nd kMA rfl (Nat.le_of_ble_eq_true rfl) (by rw [hR]; exact ⟨show _ ≤ 601024 by omega, show _ ≤ 7293034 by omega⟩) dL_law_370 (fun r7 u7 q7 => ?_)
  refine j_pick kMb kMb_nd (LW_Mb u5.1 ro bd c u5.2.1 u5.2.2.1 u6 LM o u5.2.2.2) ?_
  refine j_eqi (y := nI (k_knot n τ (xs (5 * t + 1)) (xs (5 * t + 2)))) (q7.trans h40) ?_
  refine j_iload C 373 1 dL_law_373 rfl ?_
  refine j_icmp_eq C 375 380 dL_law_375 (by decide) (fun _ => ?_) (fun h => absurd rfl h)
  by_cases hK : k_knot n τ (xs (5 * t + 1)) (xs (5 * t + 2)) = 0
  · refine j_iload C 380 1 dL_law_380 rfl ?_
    refine j_eqi (y := nI 0) (by rw [hK]) ?_
    refine j_if_ne C 382 397 dL_law_382 (by decide) (fun h => absurd (show nI 0 = 0 from rfl) h) (fun _ => ?_)
    refine j_aload_n C 385 6 dL_law_385 rfl rfl ?_
    refine j_iconst C 386 (v := nI 0) dL_law_386 rfl ?_
    refine j_lald C 387 99 2 (f := u5.2.2.2) (LW_o u5.1 ro bd c u5.2.1 u5.2.2.1 u6 LM o u5.2.2.2) rfl (by decide) (by decide) dL_law_387 ?_
    refine j_eql (y := (nI n).toInt64) ((hok hK).1) ?_
    refine j_iload C 388 0 dL_law_388 rfl ?_
    refine j_eqi (y := nI n) ((hok6 hK).1) ?_
    refine j_i2l C 390 (v := (nI n).toInt64) dL_law_390 rfl ?_
    refine j_lcmp C 391 dL_law_391 ?_
    refine j_eqi (y := 0) (lg_cmp0.mpr rfl) ?_
    refine j_if_eq C 392 397 dL_law_392 (by decide) (fun _ => ?_) (fun h => absurd rfl h)
    refine j_goto C 397 964 dL_law_397 (by decide) ?_
    exact j_lv [2, 3, 4, 5, 6] rfl (nxt u5.1 u5.2.1 u5.2.2.1 u6 LM u5.2.2.2 _ _ _ _ _ _ _ had ((hok hK).2) ((hok6 hK).2) (by omega) (by omega))
  · refine j_iload C 380 1 dL_law_380 rfl ?_
    refine j_if_ne C 382 397 dL_law_382 (by decide) (fun _ => ?_) (fun h => absurd h (nI_n0 (kb_knot (τ := τ) (w := w)) hK))
    refine j_goto C 397 964 dL_law_397 (by decide) ?_
    exact j_lv [2, 3, 4, 5, 6] rfl (nxt u5.1 u5.2.1 u5.2.2.1 u6 LM u5.2.2.2 _ _ _ _ _ _ _ had (hno hK) (hno6 hK) (by omega) (by omega))
set_option maxHeartbeats 2000000 in
set_option maxRecDepth 100000 in
theorem law_4 {D : va_G} {κ : Kx} {c : Nat → ClassId} {b L : Nat} {xs : Nat → Int32} (X : LX D κ c b L xs) {t : Nat} (ht : 5 * t + 5 ≤ L) {ad ro bd : Nat → Nat} {Z : ZT} {Lz : LT} {ZM : ZT} {LM : LT} {o : Nat} {out : Nat → Int64} {n : Nat} {τ : Tb} {w : List Nat} {st : Int32} {tr : List Nat} (hSD : g_SD n τ w st tr Z Lz) (hSM : g_SM n τ w st tr ZM) (nxt : LN D κ c ro bd o b t (ad 0)) : J D κ (100 + 4 * t) (19580 + 24 * t) 400 [(4, .int (nI (5 * t))), (0, .ref b), (1, .ref (ad 0)), (2, .ref (bd 0)), (3, .ref o)] [] (LW ad ro bd c Z Lz ZM LM o out) := by
  obtain ⟨C, hst, hxw, hxs, hxn, hX, hbl, hbA, hL, hR, hn⟩ := id X
  refine j_aload_n C 400 2 dL_law_400 rfl rfl ?_
  refine j_callcV (wr := (wm bd c ZM LM ++ [oC c o out])) (mc := 0) (ms := 0) C 401 (c_X7_clear (jl κ) D ad ro c Z Lz  hSD) gW_X7_clear rfl rfl rfl hd_X7_clear (by rw [hR]; exact ⟨Nat.le_of_ble_eq_true rfl, Nat.le_of_ble_eq_true rfl⟩) (ci := 7) rfl 0 (wd_o0 ad ro c Z Lz) ks79 kMO (LW_D ad ro bd c Z Lz ZM LM o out) ks79_nd (LW_MO ad ro bd c Z Lz ZM LM o out) kMO_nd kDMO rfl (Nat.le_of_ble_eq_true rfl) (by rw [hR]; exact ⟨show _ ≤ 601024 by omega, show _ ≤ 7293034 by omega⟩) dL_law_401 (fun u5 q5 => ?_)
  refine j_pick kDb kDb_nd (LW_Db ad ro bd c u5.1 u5.2 ZM LM o out) ?_
  refine j_aload_n C 404 3 dL_law_404 rfl rfl ?_
  refine j_callcV (wr := wO ad ro c u5.1 u5.2 o out) (mc := 0) (ms := 0) C 405 (c_X8_clear (jl κ) D bd c ZM LM  hSM) gW_X8_clear rfl rfl rfl hd_X8_clear (by rw [hR]; exact ⟨Nat.le_of_ble_eq_true rfl, Nat.le_of_ble_eq_true rfl⟩) (ci := 8) rfl 0 (wm_o0 bd c ZM LM) kM kA (LW_M ad ro bd c u5.1 u5.2 ZM LM o out) kM_nd (LW_A ad ro bd c u5.1 u5.2 ZM LM o out) kA_nd kMA rfl (Nat.le_of_ble_eq_true rfl) (by rw [hR]; exact ⟨show _ ≤ 601024 by omega, show _ ≤ 7293034 by omega⟩) dL_law_405 (fun u6 q6 => ?_)
  refine j_pick kMb kMb_nd (LW_Mb ad ro bd c u5.1 u5.2 u6 LM o out) ?_
  obtain ⟨-, hsm⟩ := q6
  refine j_goto C 408 964 dL_law_408 (by decide) ?_
  exact j_lv [0, 1, 2, 3, 4] rfl (nxt ad u5.1 u5.2 u6 LM out _ _ _ _ _ _ _ rfl (q5) (hsm) (by omega) (by omega))
set_option maxHeartbeats 2000000 in
set_option maxRecDepth 100000 in
theorem law_5 {D : va_G} {κ : Kx} {c : Nat → ClassId} {b L : Nat} {xs : Nat → Int32} (X : LX D κ c b L xs) {t : Nat} (ht : 5 * t + 5 ≤ L) {ad ro bd : Nat → Nat} {Z : ZT} {Lz : LT} {ZM : ZT} {LM : LT} {o : Nat} {out : Nat → Int64} {n : Nat} {τ : Tb} {w : List Nat} {st : Int32} {tr : List Nat} (hSD : g_SD n τ w st tr Z Lz) (hSM : g_SM n τ w st tr ZM) (nxt : LN D κ c ro bd o b t (ad 0)) : J D κ (100 + 4 * t) (19580 + 24 * t) 411 [(4, .int (nI (5 * t))), (0, .ref b), (1, .ref (ad 0)), (2, .ref (bd 0)), (3, .ref o)] [] (LW ad ro bd c Z Lz ZM LM o out) := by
  obtain ⟨C, hst, hxw, hxs, hxn, hX, hbl, hbA, hL, hR, hn⟩ := id X
  refine j_aload_n C 411 2 dL_law_411 rfl rfl ?_
  refine j_callcI (wr := (wm bd c ZM LM ++ [oC c o out])) (mc := 0) (ms := 0) C 412 (c_X7_terms (jl κ) D ad ro c Z Lz  hSD) gW_X7_terms rfl rfl rfl hd_X7_terms (by rw [hR]; exact ⟨Nat.le_of_ble_eq_true rfl, Nat.le_of_ble_eq_true rfl⟩) (ci := 7) rfl 0 (wd_o0 ad ro c Z Lz) ks79 kMO (LW_D ad ro bd c Z Lz ZM LM o out) ks79_nd (LW_MO ad ro bd c Z Lz ZM LM o out) kMO_nd kDMO rfl (Nat.le_of_ble_eq_true rfl) (by rw [hR]; exact ⟨show _ ≤ 601024 by omega, show _ ≤ 7293034 by omega⟩) dL_law_412 (fun r5 u5 q5 => ?_)
  refine j_pick kDb kDb_nd (LW_Db ad ro bd c Z Lz ZM LM o out) ?_
  subst q5
  refine j_aload_n C 415 3 dL_law_415 rfl rfl ?_
  refine j_callcI (wr := wO ad ro c Z Lz o out) (mc := 0) (ms := 0) C 416 (c_X8_terms (jl κ) D bd c ZM LM  hSM) gW_X8_terms rfl rfl rfl hd_X8_terms (by rw [hR]; exact ⟨Nat.le_of_ble_eq_true rfl, Nat.le_of_ble_eq_true rfl⟩) (ci := 8) rfl 0 (wm_o0 bd c ZM LM) kM kA (LW_M ad ro bd c Z Lz ZM LM o out) kM_nd (LW_A ad ro bd c Z Lz ZM LM o out) kA_nd kMA rfl (Nat.le_of_ble_eq_true rfl) (by rw [hR]; exact ⟨show _ ≤ 601024 by omega, show _ ≤ 7293034 by omega⟩) dL_law_416 (fun r6 u6 q6 => ?_)
  refine j_pick kMb kMb_nd (LW_Mb ad ro bd c Z Lz u6 LM o out) ?_
  obtain ⟨rfl, -, hsm⟩ := q6
  refine j_icmp_eq C 419 964 dL_law_419 (by decide) (fun _ => ?_) (fun h => absurd rfl h)
  exact j_lv [0, 1, 2, 3, 4] rfl (nxt ad Z Lz u6 LM out _ _ _ _ _ _ _ rfl (hSD) (hsm) (by omega) (by omega))
set_option maxHeartbeats 2000000 in
set_option maxRecDepth 100000 in
theorem law_6 {D : va_G} {κ : Kx} {c : Nat → ClassId} {b L : Nat} {xs : Nat → Int32} (X : LX D κ c b L xs) {t : Nat} (ht : 5 * t + 5 ≤ L) {ad ro bd : Nat → Nat} {Z : ZT} {Lz : LT} {ZM : ZT} {LM : LT} {o : Nat} {out : Nat → Int64} {n : Nat} {τ : Tb} {w : List Nat} {st : Int32} {tr : List Nat} (hSD : g_SD n τ w st tr Z Lz) (hSM : g_SM n τ w st tr ZM) (nxt : LN D κ c ro bd o b t (ad 0)) : J D κ (100 + 4 * t) (19580 + 24 * t) 424 [(4, .int (nI (5 * t))), (0, .ref b), (1, .ref (ad 0)), (2, .ref (bd 0)), (3, .ref o)] [] (LW ad ro bd c Z Lz ZM LM o out) := by
  obtain ⟨C, hst, hxw, hxs, hxn, hX, hbl, hbA, hL, hR, hn⟩ := id X
  refine j_aload_n C 424 2 dL_law_424 rfl rfl ?_
  refine j_aload_n C 425 1 dL_law_425 rfl rfl ?_
  refine j_iload C 426 0 dL_law_426 rfl ?_
  refine j_iconst C 428 (v := nI 1) dL_law_428 rfl ?_
  refine j_iadd_e C 429 (z := nI (5 * t + 1)) dL_law_429 (nI_add _ _) ?_
  refine j_sld C hX hbl hbA (by omega) 430 (by omega) dL_law_430 ?_
  refine j_aload_n C 431 4 dL_law_431 rfl rfl ?_
  refine j_scall (wr := (wm bd c ZM LM)) (mc := 1) (ms := 6) C hxw hxs hxn 432 (c_L_fault (jl κ) hst D ad ro c Z Lz o out (xs (5 * t + 1)) hSD) gW_L_fault rfl rfl rfl (show yL_fault.cls ≠ "java/lang/invoke/MethodHandle" ∧ yL_fault.cls ≠ "java/lang/invoke/VarHandle" ∧ (parseMethodDescriptor yL_fault.desc).map (fun d => d.parameters.length) = some 3 from by decide +kernel) (by rw [hR]; exact ⟨Nat.le_of_ble_eq_true rfl, Nat.le_of_ble_eq_true rfl⟩) kA kM (LW_A ad ro bd c Z Lz ZM LM o out) kA_nd (LW_M ad ro bd c Z Lz ZM LM o out) kM_nd kAM rfl (Nat.le_of_ble_eq_true rfl) (by rw [hR]; exact ⟨show _ ≤ 601024 by omega, show _ ≤ 7293034 by omega⟩) dL_law_432 (fun r5 u5 q5 => ?_)
  refine j_pick kAb kAb_nd (LW_Ab u5.1 ro bd c u5.2.1 u5.2.2.1 ZM LM o u5.2.2.2) ?_
  obtain ⟨had, rfl, hok, hno⟩ := q5
  refine j_istore C 435 (lv' := [(5, .int (nI (k_fault n (xs (5 * t + 1))))), (4, .int (nI (5 * t))), (0, .ref b), (1, .ref (ad 0)), (2, .ref (bd 0)), (3, .ref o)]) dL_law_435 (by rw [hn]; decide) rfl ?_
  refine j_aload_n C 437 4 dL_law_437 rfl rfl ?_
  refine j_aload_n C 438 2 dL_law_438 rfl rfl ?_
  refine j_iload C 439 1 dL_law_439 rfl ?_
  refine j_iconst C 441 (v := nI 1) dL_law_441 rfl ?_
  refine j_iadd_e C 442 (z := nI (5 * t + 1)) dL_law_442 (nI_add _ _) ?_
  refine j_sld C hX hbl hbA (by omega) 443 (by omega) dL_law_443 ?_
  refine j_callcI (wr := wO u5.1 ro c u5.2.1 u5.2.2.1 o u5.2.2.2) (mc := 0) (ms := 0) C 444 (c_X8_fault (jl κ) D bd c ZM LM (xs (5 * t + 1)) hSM) gW_X8_fault rfl rfl rfl hd_X8_fault (by rw [hR]; exact ⟨Nat.le_of_ble_eq_true rfl, Nat.le_of_ble_eq_true rfl⟩) (ci := 8) rfl 0 (wm_o0 bd c ZM LM) kM kA (LW_M u5.1 ro bd c u5.2.1 u5.2.2.1 ZM LM o u5.2.2.2) kM_nd (LW_A u5.1 ro bd c u5.2.1 u5.2.2.1 ZM LM o u5.2.2.2) kA_nd kMA rfl (Nat.le_of_ble_eq_true rfl) (by rw [hR]; exact ⟨show _ ≤ 601024 by omega, show _ ≤ 7293034 by omega⟩) dL_law_444 (fun r6 u6 q6 => ?_)
  refine j_pick kMb kMb_nd (LW_Mb u5.1 ro bd c u5.2.1 u5.2.2.1 u6 LM o u5.2.2.2) ?_
  obtain ⟨h40, hok6, hno6⟩ := q6
  refine j_istore C 447 (lv' := [(6, .int r6), (5, .int (nI (k_fault n (xs (5 * t + 1))))), (4, .int (nI (5 * t))), (0, .ref b), (1, .ref (ad 0)), (2, .ref (bd 0)), (3, .ref o)]) dL_law_447 (by rw [hn]; decide) rfl ?_
  refine j_aload_n C 449 5 dL_law_449 rfl rfl ?_
  refine j_callcI (wr := wO u5.1 ro c u5.2.1 u5.2.2.1 o u5.2.2.2) (mc := 0) (ms := 0) C 450 (c_X8_thrown (jl κ) D bd c u6 LM  ) gW_X8_thrown rfl rfl rfl hd_X8_thrown (by rw [hR]; exact ⟨Nat.le_of_ble_eq_true rfl, Nat.le_of_ble_eq_true rfl⟩) (ci := 8) rfl 0 (wm_o0 bd c u6 LM) kM kA (LW_M u5.1 ro bd c u5.2.1 u5.2.2.1 u6 LM o u5.2.2.2) kM_nd (LW_A u5.1 ro bd c u5.2.1 u5.2.2.1 u6 LM o u5.2.2.2) kA_nd kMA rfl (Nat.le_of_ble_eq_true rfl) (by rw [hR]; exact ⟨show _ ≤ 601024 by omega, show _ ≤ 7293034 by omega⟩) dL_law_450 (fun r7 u7 q7 => ?_)
  refine j_pick kMb kMb_nd (LW_Mb u5.1 ro bd c u5.2.1 u5.2.2.1 u6 LM o u5.2.2.2) ?_
  refine j_eqi (y := nI (k_fault n (xs (5 * t + 1)))) (q7.trans h40) ?_
  refine j_iload C 453 1 dL_law_453 rfl ?_
  refine j_icmp_eq C 455 460 dL_law_455 (by decide) (fun _ => ?_) (fun h => absurd rfl h)
  by_cases hK : k_fault n (xs (5 * t + 1)) = 0
  · refine j_iload C 460 1 dL_law_460 rfl ?_
    refine j_eqi (y := nI 0) (by rw [hK]) ?_
    refine j_if_ne C 462 477 dL_law_462 (by decide) (fun h => absurd (show nI 0 = 0 from rfl) h) (fun _ => ?_)
    refine j_aload_n C 465 6 dL_law_465 rfl rfl ?_
    refine j_iconst C 466 (v := nI 0) dL_law_466 rfl ?_
    refine j_lald C 467 99 2 (f := u5.2.2.2) (LW_o u5.1 ro bd c u5.2.1 u5.2.2.1 u6 LM o u5.2.2.2) rfl (by decide) (by decide) dL_law_467 ?_
    refine j_eql (y := (nI (g_fo τ (cN (xs (5 * t + 1))))).toInt64) ((hok hK).1) ?_
    refine j_iload C 468 0 dL_law_468 rfl ?_
    refine j_eqi (y := nI (g_fo τ (cN (xs (5 * t + 1))))) ((hok6 hK).1) ?_
    refine j_i2l C 470 (v := (nI (g_fo τ (cN (xs (5 * t + 1))))).toInt64) dL_law_470 rfl ?_
    refine j_lcmp C 471 dL_law_471 ?_
    refine j_eqi (y := 0) (lg_cmp0.mpr rfl) ?_
    refine j_if_eq C 472 477 dL_law_472 (by decide) (fun _ => ?_) (fun h => absurd rfl h)
    refine j_goto C 477 964 dL_law_477 (by decide) ?_
    exact j_lv [2, 3, 4, 5, 6] rfl (nxt u5.1 u5.2.1 u5.2.2.1 u6 LM u5.2.2.2 _ _ _ _ _ _ _ had ((hok hK).2) ((hok6 hK).2) (by omega) (by omega))
  · refine j_iload C 460 1 dL_law_460 rfl ?_
    refine j_if_ne C 462 477 dL_law_462 (by decide) (fun _ => ?_) (fun h => absurd h (nI_n0 (kb_fault (τ := τ) (w := w)) hK))
    refine j_goto C 477 964 dL_law_477 (by decide) ?_
    exact j_lv [2, 3, 4, 5, 6] rfl (nxt u5.1 u5.2.1 u5.2.2.1 u6 LM u5.2.2.2 _ _ _ _ _ _ _ had (hno hK) (hno6 hK) (by omega) (by omega))
set_option maxHeartbeats 2000000 in
set_option maxRecDepth 100000 in
theorem law_7 {D : va_G} {κ : Kx} {c : Nat → ClassId} {b L : Nat} {xs : Nat → Int32} (X : LX D κ c b L xs) {t : Nat} (ht : 5 * t + 5 ≤ L) {ad ro bd : Nat → Nat} {Z : ZT} {Lz : LT} {ZM : ZT} {LM : LT} {o : Nat} {out : Nat → Int64} {n : Nat} {τ : Tb} {w : List Nat} {st : Int32} {tr : List Nat} (hSD : g_SD n τ w st tr Z Lz) (hSM : g_SM n τ w st tr ZM) (nxt : LN D κ c ro bd o b t (ad 0)) : J D κ (100 + 4 * t) (19580 + 24 * t) 480 [(4, .int (nI (5 * t))), (0, .ref b), (1, .ref (ad 0)), (2, .ref (bd 0)), (3, .ref o)] [] (LW ad ro bd c Z Lz ZM LM o out) := by
  obtain ⟨C, hst, hxw, hxs, hxn, hX, hbl, hbA, hL, hR, hn⟩ := id X
  refine j_aload_n C 480 2 dL_law_480 rfl rfl ?_
  refine j_aload_n C 481 1 dL_law_481 rfl rfl ?_
  refine j_iload C 482 0 dL_law_482 rfl ?_
  refine j_iconst C 484 (v := nI 1) dL_law_484 rfl ?_
  refine j_iadd_e C 485 (z := nI (5 * t + 1)) dL_law_485 (nI_add _ _) ?_
  refine j_sld C hX hbl hbA (by omega) 486 (by omega) dL_law_486 ?_
  refine j_aload_n C 487 1 dL_law_487 rfl rfl ?_
  refine j_iload C 488 0 dL_law_488 rfl ?_
  refine j_iconst C 490 (v := nI 2) dL_law_490 rfl ?_
  refine j_iadd_e C 491 (z := nI (5 * t + 2)) dL_law_491 (nI_add _ _) ?_
  refine j_sld C hX hbl hbA (by omega) 492 (by omega) dL_law_492 ?_
  refine j_aload_n C 493 4 dL_law_493 rfl rfl ?_
  refine j_scall (wr := (wm bd c ZM LM)) (mc := 3) (ms := 18) C hxw hxs hxn 494 (c_L_type (jl κ) hst D ad ro c Z Lz o out (xs (5 * t + 1)) (xs (5 * t + 2)) hSD) gW_L_type rfl rfl rfl (show yL_type.cls ≠ "java/lang/invoke/MethodHandle" ∧ yL_type.cls ≠ "java/lang/invoke/VarHandle" ∧ (parseMethodDescriptor yL_type.desc).map (fun d => d.parameters.length) = some 4 from by decide +kernel) (by rw [hR]; exact ⟨Nat.le_of_ble_eq_true rfl, Nat.le_of_ble_eq_true rfl⟩) kA kM (LW_A ad ro bd c Z Lz ZM LM o out) kA_nd (LW_M ad ro bd c Z Lz ZM LM o out) kM_nd kAM rfl (Nat.le_of_ble_eq_true rfl) (by rw [hR]; exact ⟨show _ ≤ 601024 by omega, show _ ≤ 7293034 by omega⟩) dL_law_494 (fun r5 u5 q5 => ?_)
  refine j_pick kAb kAb_nd (LW_Ab u5.1 ro bd c u5.2.1 u5.2.2.1 ZM LM o u5.2.2.2) ?_
  obtain ⟨had, rfl, hok, hno⟩ := q5
  refine j_istore C 497 (lv' := [(5, .int (nI (k_type n τ (xs (5 * t + 1)) (xs (5 * t + 2))))), (4, .int (nI (5 * t))), (0, .ref b), (1, .ref (ad 0)), (2, .ref (bd 0)), (3, .ref o)]) dL_law_497 (by rw [hn]; decide) rfl ?_
  refine j_aload_n C 499 4 dL_law_499 rfl rfl ?_
  refine j_aload_n C 500 2 dL_law_500 rfl rfl ?_
  refine j_iload C 501 1 dL_law_501 rfl ?_
  refine j_iconst C 503 (v := nI 1) dL_law_503 rfl ?_
  refine j_iadd_e C 504 (z := nI (5 * t + 1)) dL_law_504 (nI_add _ _) ?_
  refine j_sld C hX hbl hbA (by omega) 505 (by omega) dL_law_505 ?_
  refine j_aload_n C 506 2 dL_law_506 rfl rfl ?_
  refine j_iload C 507 1 dL_law_507 rfl ?_
  refine j_iconst C 509 (v := nI 2) dL_law_509 rfl ?_
  refine j_iadd_e C 510 (z := nI (5 * t + 2)) dL_law_510 (nI_add _ _) ?_
  refine j_sld C hX hbl hbA (by omega) 511 (by omega) dL_law_511 ?_
  refine j_callcI (wr := wO u5.1 ro c u5.2.1 u5.2.2.1 o u5.2.2.2) (mc := 0) (ms := 0) C 512 (c_X8_type (jl κ) D bd c ZM LM (xs (5 * t + 1)) (xs (5 * t + 2)) hSM) gW_X8_type rfl rfl rfl hd_X8_type (by rw [hR]; exact ⟨Nat.le_of_ble_eq_true rfl, Nat.le_of_ble_eq_true rfl⟩) (ci := 8) rfl 0 (wm_o0 bd c ZM LM) kM kA (LW_M u5.1 ro bd c u5.2.1 u5.2.2.1 ZM LM o u5.2.2.2) kM_nd (LW_A u5.1 ro bd c u5.2.1 u5.2.2.1 ZM LM o u5.2.2.2) kA_nd kMA rfl (Nat.le_of_ble_eq_true rfl) (by rw [hR]; exact ⟨show _ ≤ 601024 by omega, show _ ≤ 7293034 by omega⟩) dL_law_512 (fun r6 u6 q6 => ?_)
  refine j_pick kMb kMb_nd (LW_Mb u5.1 ro bd c u5.2.1 u5.2.2.1 u6 LM o u5.2.2.2) ?_
  obtain ⟨h40, hok6, hno6⟩ := q6
  refine j_istore C 515 (lv' := [(6, .int r6), (5, .int (nI (k_type n τ (xs (5 * t + 1)) (xs (5 * t + 2))))), (4, .int (nI (5 * t))), (0, .ref b), (1, .ref (ad 0)), (2, .ref (bd 0)), (3, .ref o)]) dL_law_515 (by rw [hn]; decide) rfl ?_
  refine j_aload_n C 517 5 dL_law_517 rfl rfl ?_
  refine j_callcI (wr := wO u5.1 ro c u5.2.1 u5.2.2.1 o u5.2.2.2) (mc := 0) (ms := 0) C 518 (c_X8_thrown (jl κ) D bd c u6 LM  ) gW_X8_thrown rfl rfl rfl hd_X8_thrown (by rw [hR]; exact ⟨Nat.le_of_ble_eq_true rfl, Nat.le_of_ble_eq_true rfl⟩) (ci := 8) rfl 0 (wm_o0 bd c u6 LM) kM kA (LW_M u5.1 ro bd c u5.2.1 u5.2.2.1 u6 LM o u5.2.2.2) kM_nd (LW_A u5.1 ro bd c u5.2.1 u5.2.2.1 u6 LM o u5.2.2.2) kA_nd kMA rfl (Nat.le_of_ble_eq_true rfl) (by rw [hR]; exact ⟨show _ ≤ 601024 by omega, show _ ≤ 7293034 by omega⟩) dL_law_518 (fun r7 u7 q7 => ?_)
  refine j_pick kMb kMb_nd (LW_Mb u5.1 ro bd c u5.2.1 u5.2.2.1 u6 LM o u5.2.2.2) ?_
  refine j_eqi (y := nI (k_type n τ (xs (5 * t + 1)) (xs (5 * t + 2)))) (q7.trans h40) ?_
  refine j_iload C 521 1 dL_law_521 rfl ?_
  refine j_icmp_eq C 523 528 dL_law_523 (by decide) (fun _ => ?_) (fun h => absurd rfl h)
  by_cases hK : k_type n τ (xs (5 * t + 1)) (xs (5 * t + 2)) = 0
  · refine j_iload C 528 1 dL_law_528 rfl ?_
    refine j_eqi (y := nI 0) (by rw [hK]) ?_
    refine j_if_ne C 530 545 dL_law_530 (by decide) (fun h => absurd (show nI 0 = 0 from rfl) h) (fun _ => ?_)
    refine j_aload_n C 533 6 dL_law_533 rfl rfl ?_
    refine j_iconst C 534 (v := nI 0) dL_law_534 rfl ?_
    refine j_lald C 535 99 2 (f := u5.2.2.2) (LW_o u5.1 ro bd c u5.2.1 u5.2.2.1 u6 LM o u5.2.2.2) rfl (by decide) (by decide) dL_law_535 ?_
    refine j_eql (y := (v_type τ (xs (5 * t + 1)) (xs (5 * t + 2))).toInt64) ((hok hK).1) ?_
    refine j_iload C 536 0 dL_law_536 rfl ?_
    refine j_eqi (y := v_type τ (xs (5 * t + 1)) (xs (5 * t + 2))) ((hok6 hK).1) ?_
    refine j_i2l C 538 (v := (v_type τ (xs (5 * t + 1)) (xs (5 * t + 2))).toInt64) dL_law_538 rfl ?_
    refine j_lcmp C 539 dL_law_539 ?_
    refine j_eqi (y := 0) (lg_cmp0.mpr rfl) ?_
    refine j_if_eq C 540 545 dL_law_540 (by decide) (fun _ => ?_) (fun h => absurd rfl h)
    refine j_goto C 545 964 dL_law_545 (by decide) ?_
    exact j_lv [2, 3, 4, 5, 6] rfl (nxt u5.1 u5.2.1 u5.2.2.1 u6 LM u5.2.2.2 _ _ _ _ _ _ _ had ((hok hK).2) ((hok6 hK).2) (by omega) (by omega))
  · refine j_iload C 528 1 dL_law_528 rfl ?_
    refine j_if_ne C 530 545 dL_law_530 (by decide) (fun _ => ?_) (fun h => absurd h (nI_n0 (kb_type (τ := τ) (w := w)) hK))
    refine j_goto C 545 964 dL_law_545 (by decide) ?_
    exact j_lv [2, 3, 4, 5, 6] rfl (nxt u5.1 u5.2.1 u5.2.2.1 u6 LM u5.2.2.2 _ _ _ _ _ _ _ had (hno hK) (hno6 hK) (by omega) (by omega))
set_option maxHeartbeats 2000000 in
set_option maxRecDepth 100000 in
theorem law_8 {D : va_G} {κ : Kx} {c : Nat → ClassId} {b L : Nat} {xs : Nat → Int32} (X : LX D κ c b L xs) {t : Nat} (ht : 5 * t + 5 ≤ L) {ad ro bd : Nat → Nat} {Z : ZT} {Lz : LT} {ZM : ZT} {LM : LT} {o : Nat} {out : Nat → Int64} {n : Nat} {τ : Tb} {w : List Nat} {st : Int32} {tr : List Nat} (hSD : g_SD n τ w st tr Z Lz) (hSM : g_SM n τ w st tr ZM) (nxt : LN D κ c ro bd o b t (ad 0)) : J D κ (100 + 4 * t) (19580 + 24 * t) 548 [(4, .int (nI (5 * t))), (0, .ref b), (1, .ref (ad 0)), (2, .ref (bd 0)), (3, .ref o)] [] (LW ad ro bd c Z Lz ZM LM o out) := by
  obtain ⟨C, hst, hxw, hxs, hxn, hX, hbl, hbA, hL, hR, hn⟩ := id X
  refine j_aload_n C 548 2 dL_law_548 rfl rfl ?_
  refine j_aload_n C 549 1 dL_law_549 rfl rfl ?_
  refine j_iload C 550 0 dL_law_550 rfl ?_
  refine j_iconst C 552 (v := nI 1) dL_law_552 rfl ?_
  refine j_iadd_e C 553 (z := nI (5 * t + 1)) dL_law_553 (nI_add _ _) ?_
  refine j_sld C hX hbl hbA (by omega) 554 (by omega) dL_law_554 ?_
  refine j_callcI (wr := (wm bd c ZM LM ++ [oC c o out])) (mc := 0) (ms := 0) C 555 (c_X7_put (jl κ) D ad ro c Z Lz (xs (5 * t + 1)) hSD) gW_X7_put rfl rfl rfl hd_X7_put (by rw [hR]; exact ⟨Nat.le_of_ble_eq_true rfl, Nat.le_of_ble_eq_true rfl⟩) (ci := 7) rfl 0 (wd_o0 ad ro c Z Lz) ks79 kMO (LW_D ad ro bd c Z Lz ZM LM o out) ks79_nd (LW_MO ad ro bd c Z Lz ZM LM o out) kMO_nd kDMO rfl (Nat.le_of_ble_eq_true rfl) (by rw [hR]; exact ⟨show _ ≤ 601024 by omega, show _ ≤ 7293034 by omega⟩) dL_law_555 (fun r5 u5 q5 => ?_)
  refine j_pick kDb kDb_nd (LW_Db ad ro bd c u5.1 u5.2 ZM LM o out) ?_
  obtain ⟨rfl, hsd⟩ := q5
  refine j_aload_n C 558 3 dL_law_558 rfl rfl ?_
  refine j_aload_n C 559 1 dL_law_559 rfl rfl ?_
  refine j_iload C 560 0 dL_law_560 rfl ?_
  refine j_iconst C 562 (v := nI 1) dL_law_562 rfl ?_
  refine j_iadd_e C 563 (z := nI (5 * t + 1)) dL_law_563 (nI_add _ _) ?_
  refine j_sld C hX hbl hbA (by omega) 564 (by omega) dL_law_564 ?_
  refine j_callcI (wr := wO ad ro c u5.1 u5.2 o out) (mc := 0) (ms := 0) C 565 (c_X8_put (jl κ) D bd c ZM LM (xs (5 * t + 1)) hSM) gW_X8_put rfl rfl rfl hd_X8_put (by rw [hR]; exact ⟨Nat.le_of_ble_eq_true rfl, Nat.le_of_ble_eq_true rfl⟩) (ci := 8) rfl 0 (wm_o0 bd c ZM LM) kM kA (LW_M ad ro bd c u5.1 u5.2 ZM LM o out) kM_nd (LW_A ad ro bd c u5.1 u5.2 ZM LM o out) kA_nd kMA rfl (Nat.le_of_ble_eq_true rfl) (by rw [hR]; exact ⟨show _ ≤ 601024 by omega, show _ ≤ 7293034 by omega⟩) dL_law_565 (fun r6 u6 q6 => ?_)
  refine j_pick kMb kMb_nd (LW_Mb ad ro bd c u5.1 u5.2 u6 LM o out) ?_
  obtain ⟨rfl, -, hsm⟩ := q6
  refine j_icmp_eq C 568 964 dL_law_568 (by decide) (fun _ => ?_) (fun h => absurd rfl h)
  exact j_lv [0, 1, 2, 3, 4] rfl (nxt ad u5.1 u5.2 u6 LM out _ _ _ _ _ _ _ rfl (hsd) (hsm) (by omega) (by omega))
set_option maxHeartbeats 2000000 in
set_option maxRecDepth 100000 in
theorem law_9 {D : va_G} {κ : Kx} {c : Nat → ClassId} {b L : Nat} {xs : Nat → Int32} (X : LX D κ c b L xs) {t : Nat} (ht : 5 * t + 5 ≤ L) {ad ro bd : Nat → Nat} {Z : ZT} {Lz : LT} {ZM : ZT} {LM : LT} {o : Nat} {out : Nat → Int64} {n : Nat} {τ : Tb} {w : List Nat} {st : Int32} {tr : List Nat} (hSD : g_SD n τ w st tr Z Lz) (hSM : g_SM n τ w st tr ZM) (nxt : LN D κ c ro bd o b t (ad 0)) : J D κ (100 + 4 * t) (19580 + 24 * t) 573 [(4, .int (nI (5 * t))), (0, .ref b), (1, .ref (ad 0)), (2, .ref (bd 0)), (3, .ref o)] [] (LW ad ro bd c Z Lz ZM LM o out) := by
  obtain ⟨C, hst, hxw, hxs, hxn, hX, hbl, hbA, hL, hR, hn⟩ := id X
  refine j_aload_n C 573 2 dL_law_573 rfl rfl ?_
  refine j_aload_n C 574 1 dL_law_574 rfl rfl ?_
  refine j_iload C 575 0 dL_law_575 rfl ?_
  refine j_iconst C 577 (v := nI 1) dL_law_577 rfl ?_
  refine j_iadd_e C 578 (z := nI (5 * t + 1)) dL_law_578 (nI_add _ _) ?_
  refine j_sld C hX hbl hbA (by omega) 579 (by omega) dL_law_579 ?_
  refine j_callcI (wr := (wm bd c ZM LM ++ [oC c o out])) (mc := 0) (ms := 0) C 580 (c_X7_cut (jl κ) D ad ro c Z Lz (xs (5 * t + 1)) hSD) gW_X7_cut rfl rfl rfl hd_X7_cut (by rw [hR]; exact ⟨Nat.le_of_ble_eq_true rfl, Nat.le_of_ble_eq_true rfl⟩) (ci := 7) rfl 0 (wd_o0 ad ro c Z Lz) ks79 kMO (LW_D ad ro bd c Z Lz ZM LM o out) ks79_nd (LW_MO ad ro bd c Z Lz ZM LM o out) kMO_nd kDMO rfl (Nat.le_of_ble_eq_true rfl) (by rw [hR]; exact ⟨show _ ≤ 601024 by omega, show _ ≤ 7293034 by omega⟩) dL_law_580 (fun r5 u5 q5 => ?_)
  refine j_pick kDb kDb_nd (LW_Db ad ro bd c u5.1 u5.2 ZM LM o out) ?_
  obtain ⟨rfl, hsd⟩ := q5
  refine j_aload_n C 583 3 dL_law_583 rfl rfl ?_
  refine j_aload_n C 584 1 dL_law_584 rfl rfl ?_
  refine j_iload C 585 0 dL_law_585 rfl ?_
  refine j_iconst C 587 (v := nI 1) dL_law_587 rfl ?_
  refine j_iadd_e C 588 (z := nI (5 * t + 1)) dL_law_588 (nI_add _ _) ?_
  refine j_sld C hX hbl hbA (by omega) 589 (by omega) dL_law_589 ?_
  refine j_callcI (wr := wO ad ro c u5.1 u5.2 o out) (mc := 0) (ms := 0) C 590 (c_X8_cut (jl κ) D bd c ZM LM (xs (5 * t + 1)) hSM) gW_X8_cut rfl rfl rfl hd_X8_cut (by rw [hR]; exact ⟨Nat.le_of_ble_eq_true rfl, Nat.le_of_ble_eq_true rfl⟩) (ci := 8) rfl 0 (wm_o0 bd c ZM LM) kM kA (LW_M ad ro bd c u5.1 u5.2 ZM LM o out) kM_nd (LW_A ad ro bd c u5.1 u5.2 ZM LM o out) kA_nd kMA rfl (Nat.le_of_ble_eq_true rfl) (by rw [hR]; exact ⟨show _ ≤ 601024 by omega, show _ ≤ 7293034 by omega⟩) dL_law_590 (fun r6 u6 q6 => ?_)
  refine j_pick kMb kMb_nd (LW_Mb ad ro bd c u5.1 u5.2 u6 LM o out) ?_
  obtain ⟨rfl, -, hsm⟩ := q6
  refine j_icmp_eq C 593 964 dL_law_593 (by decide) (fun _ => ?_) (fun h => absurd rfl h)
  exact j_lv [0, 1, 2, 3, 4] rfl (nxt ad u5.1 u5.2 u6 LM out _ _ _ _ _ _ _ rfl (hsd) (hsm) (by omega) (by omega))
set_option maxHeartbeats 2000000 in
set_option maxRecDepth 100000 in
theorem law_10 {D : va_G} {κ : Kx} {c : Nat → ClassId} {b L : Nat} {xs : Nat → Int32} (X : LX D κ c b L xs) {t : Nat} (ht : 5 * t + 5 ≤ L) {ad ro bd : Nat → Nat} {Z : ZT} {Lz : LT} {ZM : ZT} {LM : LT} {o : Nat} {out : Nat → Int64} {n : Nat} {τ : Tb} {w : List Nat} {st : Int32} {tr : List Nat} (hSD : g_SD n τ w st tr Z Lz) (hSM : g_SM n τ w st tr ZM) (nxt : LN D κ c ro bd o b t (ad 0)) : J D κ (100 + 4 * t) (19580 + 24 * t) 598 [(4, .int (nI (5 * t))), (0, .ref b), (1, .ref (ad 0)), (2, .ref (bd 0)), (3, .ref o)] [] (LW ad ro bd c Z Lz ZM LM o out) := by
  obtain ⟨C, hst, hxw, hxs, hxn, hX, hbl, hbA, hL, hR, hn⟩ := id X
  refine j_aload_n C 598 2 dL_law_598 rfl rfl ?_
  refine j_callcI (wr := (wm bd c ZM LM ++ [oC c o out])) (mc := 0) (ms := 0) C 599 (c_X7_length (jl κ) D ad ro c Z Lz  hSD) gW_X7_length rfl rfl rfl hd_X7_length (by rw [hR]; exact ⟨Nat.le_of_ble_eq_true rfl, Nat.le_of_ble_eq_true rfl⟩) (ci := 7) rfl 0 (wd_o0 ad ro c Z Lz) ks79 kMO (LW_D ad ro bd c Z Lz ZM LM o out) ks79_nd (LW_MO ad ro bd c Z Lz ZM LM o out) kMO_nd kDMO rfl (Nat.le_of_ble_eq_true rfl) (by rw [hR]; exact ⟨show _ ≤ 601024 by omega, show _ ≤ 7293034 by omega⟩) dL_law_599 (fun r5 u5 q5 => ?_)
  refine j_pick kDb kDb_nd (LW_Db ad ro bd c Z Lz ZM LM o out) ?_
  subst q5
  refine j_aload_n C 602 3 dL_law_602 rfl rfl ?_
  refine j_callcI (wr := wO ad ro c Z Lz o out) (mc := 0) (ms := 0) C 603 (c_X8_length (jl κ) D bd c ZM LM  hSM) gW_X8_length rfl rfl rfl hd_X8_length (by rw [hR]; exact ⟨Nat.le_of_ble_eq_true rfl, Nat.le_of_ble_eq_true rfl⟩) (ci := 8) rfl 0 (wm_o0 bd c ZM LM) kM kA (LW_M ad ro bd c Z Lz ZM LM o out) kM_nd (LW_A ad ro bd c Z Lz ZM LM o out) kA_nd kMA rfl (Nat.le_of_ble_eq_true rfl) (by rw [hR]; exact ⟨show _ ≤ 601024 by omega, show _ ≤ 7293034 by omega⟩) dL_law_603 (fun r6 u6 q6 => ?_)
  refine j_pick kMb kMb_nd (LW_Mb ad ro bd c Z Lz u6 LM o out) ?_
  obtain ⟨rfl, -, hsm⟩ := q6
  refine j_icmp_eq C 606 964 dL_law_606 (by decide) (fun _ => ?_) (fun h => absurd rfl h)
  exact j_lv [0, 1, 2, 3, 4] rfl (nxt ad Z Lz u6 LM out _ _ _ _ _ _ _ rfl (hSD) (hsm) (by omega) (by omega))
set_option maxHeartbeats 2000000 in
set_option maxRecDepth 100000 in
theorem law_11 {D : va_G} {κ : Kx} {c : Nat → ClassId} {b L : Nat} {xs : Nat → Int32} (X : LX D κ c b L xs) {t : Nat} (ht : 5 * t + 5 ≤ L) {ad ro bd : Nat → Nat} {Z : ZT} {Lz : LT} {ZM : ZT} {LM : LT} {o : Nat} {out : Nat → Int64} {n : Nat} {τ : Tb} {w : List Nat} {st : Int32} {tr : List Nat} (hSD : g_SD n τ w st tr Z Lz) (hSM : g_SM n τ w st tr ZM) (nxt : LN D κ c ro bd o b t (ad 0)) : J D κ (100 + 4 * t) (19580 + 24 * t) 611 [(4, .int (nI (5 * t))), (0, .ref b), (1, .ref (ad 0)), (2, .ref (bd 0)), (3, .ref o)] [] (LW ad ro bd c Z Lz ZM LM o out) := by
  obtain ⟨C, hst, hxw, hxs, hxn, hX, hbl, hbA, hL, hR, hn⟩ := id X
  refine j_aload_n C 611 2 dL_law_611 rfl rfl ?_
  refine j_aload_n C 612 1 dL_law_612 rfl rfl ?_
  refine j_iload C 613 0 dL_law_613 rfl ?_
  refine j_iconst C 615 (v := nI 1) dL_law_615 rfl ?_
  refine j_iadd_e C 616 (z := nI (5 * t + 1)) dL_law_616 (nI_add _ _) ?_
  refine j_sld C hX hbl hbA (by omega) 617 (by omega) dL_law_617 ?_
  refine j_aload_n C 618 4 dL_law_618 rfl rfl ?_
  refine j_scall (wr := (wm bd c ZM LM)) (mc := 1) (ms := 6) C hxw hxs hxn 619 (c_L_letter (jl κ) hst D ad ro c Z Lz o out (xs (5 * t + 1)) hSD) gW_L_letter rfl rfl rfl (show yL_letter.cls ≠ "java/lang/invoke/MethodHandle" ∧ yL_letter.cls ≠ "java/lang/invoke/VarHandle" ∧ (parseMethodDescriptor yL_letter.desc).map (fun d => d.parameters.length) = some 3 from by decide +kernel) (by rw [hR]; exact ⟨Nat.le_of_ble_eq_true rfl, Nat.le_of_ble_eq_true rfl⟩) kA kM (LW_A ad ro bd c Z Lz ZM LM o out) kA_nd (LW_M ad ro bd c Z Lz ZM LM o out) kM_nd kAM rfl (Nat.le_of_ble_eq_true rfl) (by rw [hR]; exact ⟨show _ ≤ 601024 by omega, show _ ≤ 7293034 by omega⟩) dL_law_619 (fun r5 u5 q5 => ?_)
  refine j_pick kAb kAb_nd (LW_Ab u5.1 ro bd c u5.2.1 u5.2.2.1 ZM LM o u5.2.2.2) ?_
  obtain ⟨had, rfl, hok, hno⟩ := q5
  refine j_istore C 622 (lv' := [(5, .int (nI (k_ix w.length (xs (5 * t + 1))))), (4, .int (nI (5 * t))), (0, .ref b), (1, .ref (ad 0)), (2, .ref (bd 0)), (3, .ref o)]) dL_law_622 (by rw [hn]; decide) rfl ?_
  refine j_aload_n C 624 4 dL_law_624 rfl rfl ?_
  refine j_aload_n C 625 2 dL_law_625 rfl rfl ?_
  refine j_iload C 626 1 dL_law_626 rfl ?_
  refine j_iconst C 628 (v := nI 1) dL_law_628 rfl ?_
  refine j_iadd_e C 629 (z := nI (5 * t + 1)) dL_law_629 (nI_add _ _) ?_
  refine j_sld C hX hbl hbA (by omega) 630 (by omega) dL_law_630 ?_
  refine j_callcI (wr := wO u5.1 ro c u5.2.1 u5.2.2.1 o u5.2.2.2) (mc := 0) (ms := 0) C 631 (c_X8_letter (jl κ) D bd c ZM LM (xs (5 * t + 1)) hSM) gW_X8_letter rfl rfl rfl hd_X8_letter (by rw [hR]; exact ⟨Nat.le_of_ble_eq_true rfl, Nat.le_of_ble_eq_true rfl⟩) (ci := 8) rfl 0 (wm_o0 bd c ZM LM) kM kA (LW_M u5.1 ro bd c u5.2.1 u5.2.2.1 ZM LM o u5.2.2.2) kM_nd (LW_A u5.1 ro bd c u5.2.1 u5.2.2.1 ZM LM o u5.2.2.2) kA_nd kMA rfl (Nat.le_of_ble_eq_true rfl) (by rw [hR]; exact ⟨show _ ≤ 601024 by omega, show _ ≤ 7293034 by omega⟩) dL_law_631 (fun r6 u6 q6 => ?_)
  refine j_pick kMb kMb_nd (LW_Mb u5.1 ro bd c u5.2.1 u5.2.2.1 u6 LM o u5.2.2.2) ?_
  obtain ⟨h40, hok6, hno6⟩ := q6
  refine j_istore C 634 (lv' := [(6, .int r6), (5, .int (nI (k_ix w.length (xs (5 * t + 1))))), (4, .int (nI (5 * t))), (0, .ref b), (1, .ref (ad 0)), (2, .ref (bd 0)), (3, .ref o)]) dL_law_634 (by rw [hn]; decide) rfl ?_
  refine j_aload_n C 636 5 dL_law_636 rfl rfl ?_
  refine j_callcI (wr := wO u5.1 ro c u5.2.1 u5.2.2.1 o u5.2.2.2) (mc := 0) (ms := 0) C 637 (c_X8_thrown (jl κ) D bd c u6 LM  ) gW_X8_thrown rfl rfl rfl hd_X8_thrown (by rw [hR]; exact ⟨Nat.le_of_ble_eq_true rfl, Nat.le_of_ble_eq_true rfl⟩) (ci := 8) rfl 0 (wm_o0 bd c u6 LM) kM kA (LW_M u5.1 ro bd c u5.2.1 u5.2.2.1 u6 LM o u5.2.2.2) kM_nd (LW_A u5.1 ro bd c u5.2.1 u5.2.2.1 u6 LM o u5.2.2.2) kA_nd kMA rfl (Nat.le_of_ble_eq_true rfl) (by rw [hR]; exact ⟨show _ ≤ 601024 by omega, show _ ≤ 7293034 by omega⟩) dL_law_637 (fun r7 u7 q7 => ?_)
  refine j_pick kMb kMb_nd (LW_Mb u5.1 ro bd c u5.2.1 u5.2.2.1 u6 LM o u5.2.2.2) ?_
  refine j_eqi (y := nI (k_ix w.length (xs (5 * t + 1)))) (q7.trans h40) ?_
  refine j_iload C 640 1 dL_law_640 rfl ?_
  refine j_icmp_eq C 642 647 dL_law_642 (by decide) (fun _ => ?_) (fun h => absurd rfl h)
  by_cases hK : k_ix w.length (xs (5 * t + 1)) = 0
  · refine j_iload C 647 1 dL_law_647 rfl ?_
    refine j_eqi (y := nI 0) (by rw [hK]) ?_
    refine j_if_ne C 649 664 dL_law_649 (by decide) (fun h => absurd (show nI 0 = 0 from rfl) h) (fun _ => ?_)
    refine j_aload_n C 652 6 dL_law_652 rfl rfl ?_
    refine j_iconst C 653 (v := nI 0) dL_law_653 rfl ?_
    refine j_lald C 654 99 2 (f := u5.2.2.2) (LW_o u5.1 ro bd c u5.2.1 u5.2.2.1 u6 LM o u5.2.2.2) rfl (by decide) (by decide) dL_law_654 ?_
    refine j_eql (y := (nI (g_nx w (cN (xs (5 * t + 1))))).toInt64) ((hok hK).1) ?_
    refine j_iload C 655 0 dL_law_655 rfl ?_
    refine j_eqi (y := nI (g_nx w (cN (xs (5 * t + 1))))) ((hok6 hK).1) ?_
    refine j_i2l C 657 (v := (nI (g_nx w (cN (xs (5 * t + 1))))).toInt64) dL_law_657 rfl ?_
    refine j_lcmp C 658 dL_law_658 ?_
    refine j_eqi (y := 0) (lg_cmp0.mpr rfl) ?_
    refine j_if_eq C 659 664 dL_law_659 (by decide) (fun _ => ?_) (fun h => absurd rfl h)
    refine j_goto C 664 964 dL_law_664 (by decide) ?_
    exact j_lv [2, 3, 4, 5, 6] rfl (nxt u5.1 u5.2.1 u5.2.2.1 u6 LM u5.2.2.2 _ _ _ _ _ _ _ had ((hok hK).2) ((hok6 hK).2) (by omega) (by omega))
  · refine j_iload C 647 1 dL_law_647 rfl ?_
    refine j_if_ne C 649 664 dL_law_649 (by decide) (fun _ => ?_) (fun h => absurd h (nI_n0 (kb_ix (τ := τ) (w := w)) hK))
    refine j_goto C 664 964 dL_law_664 (by decide) ?_
    exact j_lv [2, 3, 4, 5, 6] rfl (nxt u5.1 u5.2.1 u5.2.2.1 u6 LM u5.2.2.2 _ _ _ _ _ _ _ had (hno hK) (hno6 hK) (by omega) (by omega))
set_option maxHeartbeats 2000000 in
set_option maxRecDepth 100000 in
theorem law_12 {D : va_G} {κ : Kx} {c : Nat → ClassId} {b L : Nat} {xs : Nat → Int32} (X : LX D κ c b L xs) {t : Nat} (ht : 5 * t + 5 ≤ L) {ad ro bd : Nat → Nat} {Z : ZT} {Lz : LT} {ZM : ZT} {LM : LT} {o : Nat} {out : Nat → Int64} {n : Nat} {τ : Tb} {w : List Nat} {st : Int32} {tr : List Nat} (hSD : g_SD n τ w st tr Z Lz) (hSM : g_SM n τ w st tr ZM) (nxt : LN D κ c ro bd o b t (ad 0)) : J D κ (100 + 4 * t) (19580 + 24 * t) 667 [(4, .int (nI (5 * t))), (0, .ref b), (1, .ref (ad 0)), (2, .ref (bd 0)), (3, .ref o)] [] (LW ad ro bd c Z Lz ZM LM o out) := by
  obtain ⟨C, hst, hxw, hxs, hxn, hX, hbl, hbA, hL, hR, hn⟩ := id X
  refine j_aload_n C 667 2 dL_law_667 rfl rfl ?_
  refine j_aload_n C 668 1 dL_law_668 rfl rfl ?_
  refine j_iload C 669 0 dL_law_669 rfl ?_
  refine j_iconst C 671 (v := nI 1) dL_law_671 rfl ?_
  refine j_iadd_e C 672 (z := nI (5 * t + 1)) dL_law_672 (nI_add _ _) ?_
  refine j_sld C hX hbl hbA (by omega) 673 (by omega) dL_law_673 ?_
  refine j_aload_n C 674 4 dL_law_674 rfl rfl ?_
  refine j_scall (wr := (wm bd c ZM LM)) (mc := 3) (ms := 18) C hxw hxs hxn 675 (c_L_read (jl κ) hst D ad ro c Z Lz o out (xs (5 * t + 1)) hSD) gW_L_read rfl rfl rfl (show yL_read.cls ≠ "java/lang/invoke/MethodHandle" ∧ yL_read.cls ≠ "java/lang/invoke/VarHandle" ∧ (parseMethodDescriptor yL_read.desc).map (fun d => d.parameters.length) = some 3 from by decide +kernel) (by rw [hR]; exact ⟨Nat.le_of_ble_eq_true rfl, Nat.le_of_ble_eq_true rfl⟩) kA kM (LW_A ad ro bd c Z Lz ZM LM o out) kA_nd (LW_M ad ro bd c Z Lz ZM LM o out) kM_nd kAM rfl (Nat.le_of_ble_eq_true rfl) (by rw [hR]; exact ⟨show _ ≤ 601024 by omega, show _ ≤ 7293034 by omega⟩) dL_law_675 (fun r5 u5 q5 => ?_)
  refine j_pick kAb kAb_nd (LW_Ab u5.1 ro bd c u5.2.1 u5.2.2.1 ZM LM o u5.2.2.2) ?_
  obtain ⟨had, rfl, hok, hno⟩ := q5
  refine j_istore C 678 (lv' := [(5, .int (nI (k_read n τ w (xs (5 * t + 1))))), (4, .int (nI (5 * t))), (0, .ref b), (1, .ref (ad 0)), (2, .ref (bd 0)), (3, .ref o)]) dL_law_678 (by rw [hn]; decide) rfl ?_
  refine j_aload_n C 680 4 dL_law_680 rfl rfl ?_
  refine j_aload_n C 681 2 dL_law_681 rfl rfl ?_
  refine j_iload C 682 1 dL_law_682 rfl ?_
  refine j_iconst C 684 (v := nI 1) dL_law_684 rfl ?_
  refine j_iadd_e C 685 (z := nI (5 * t + 1)) dL_law_685 (nI_add _ _) ?_
  refine j_sld C hX hbl hbA (by omega) 686 (by omega) dL_law_686 ?_
  refine j_callcI (wr := wO u5.1 ro c u5.2.1 u5.2.2.1 o u5.2.2.2) (mc := 0) (ms := 0) C 687 (c_X8_read (jl κ) D bd c ZM LM (xs (5 * t + 1)) hSM) gW_X8_read rfl rfl rfl hd_X8_read (by rw [hR]; exact ⟨Nat.le_of_ble_eq_true rfl, Nat.le_of_ble_eq_true rfl⟩) (ci := 8) rfl 0 (wm_o0 bd c ZM LM) kM kA (LW_M u5.1 ro bd c u5.2.1 u5.2.2.1 ZM LM o u5.2.2.2) kM_nd (LW_A u5.1 ro bd c u5.2.1 u5.2.2.1 ZM LM o u5.2.2.2) kA_nd kMA rfl (Nat.le_of_ble_eq_true rfl) (by rw [hR]; exact ⟨show _ ≤ 601024 by omega, show _ ≤ 7293034 by omega⟩) dL_law_687 (fun r6 u6 q6 => ?_)
  refine j_pick kMb kMb_nd (LW_Mb u5.1 ro bd c u5.2.1 u5.2.2.1 u6 LM o u5.2.2.2) ?_
  obtain ⟨h40, hok6, hsm6⟩ := q6
  refine j_istore C 690 (lv' := [(6, .int r6), (5, .int (nI (k_read n τ w (xs (5 * t + 1))))), (4, .int (nI (5 * t))), (0, .ref b), (1, .ref (ad 0)), (2, .ref (bd 0)), (3, .ref o)]) dL_law_690 (by rw [hn]; decide) rfl ?_
  refine j_aload_n C 692 5 dL_law_692 rfl rfl ?_
  refine j_callcI (wr := wO u5.1 ro c u5.2.1 u5.2.2.1 o u5.2.2.2) (mc := 0) (ms := 0) C 693 (c_X8_thrown (jl κ) D bd c u6 LM  ) gW_X8_thrown rfl rfl rfl hd_X8_thrown (by rw [hR]; exact ⟨Nat.le_of_ble_eq_true rfl, Nat.le_of_ble_eq_true rfl⟩) (ci := 8) rfl 0 (wm_o0 bd c u6 LM) kM kA (LW_M u5.1 ro bd c u5.2.1 u5.2.2.1 u6 LM o u5.2.2.2) kM_nd (LW_A u5.1 ro bd c u5.2.1 u5.2.2.1 u6 LM o u5.2.2.2) kA_nd kMA rfl (Nat.le_of_ble_eq_true rfl) (by rw [hR]; exact ⟨show _ ≤ 601024 by omega, show _ ≤ 7293034 by omega⟩) dL_law_693 (fun r7 u7 q7 => ?_)
  refine j_pick kMb kMb_nd (LW_Mb u5.1 ro bd c u5.2.1 u5.2.2.1 u6 LM o u5.2.2.2) ?_
  refine j_eqi (y := nI (k_read n τ w (xs (5 * t + 1)))) (q7.trans h40) ?_
  refine j_iload C 696 1 dL_law_696 rfl ?_
  refine j_icmp_eq C 698 703 dL_law_698 (by decide) (fun _ => ?_) (fun h => absurd rfl h)
  by_cases hK : k_read n τ w (xs (5 * t + 1)) = 0
  · refine j_iload C 703 1 dL_law_703 rfl ?_
    refine j_eqi (y := nI 0) (by rw [hK]) ?_
    refine j_if_ne C 705 720 dL_law_705 (by decide) (fun h => absurd (show nI 0 = 0 from rfl) h) (fun _ => ?_)
    refine j_aload_n C 708 6 dL_law_708 rfl rfl ?_
    refine j_iconst C 709 (v := nI 0) dL_law_709 rfl ?_
    refine j_lald C 710 99 2 (f := u5.2.2.2) (LW_o u5.1 ro bd c u5.2.1 u5.2.2.1 u6 LM o u5.2.2.2) rfl (by decide) (by decide) dL_law_710 ?_
    refine j_eql (y := (nI (g_RD τ (cN (xs (5 * t + 1))) w).2.2.1).toInt64) ((hok hK).1) ?_
    refine j_iload C 711 0 dL_law_711 rfl ?_
    refine j_eqi (y := nI (g_RD τ (cN (xs (5 * t + 1))) w).2.2.1) (hok6 hK) ?_
    refine j_i2l C 713 (v := (nI (g_RD τ (cN (xs (5 * t + 1))) w).2.2.1).toInt64) dL_law_713 rfl ?_
    refine j_lcmp C 714 dL_law_714 ?_
    refine j_eqi (y := 0) (lg_cmp0.mpr rfl) ?_
    refine j_if_eq C 715 720 dL_law_715 (by decide) (fun _ => ?_) (fun h => absurd rfl h)
    refine j_goto C 720 964 dL_law_720 (by decide) ?_
    exact j_lv [2, 3, 4, 5, 6] rfl (nxt u5.1 u5.2.1 u5.2.2.1 u6 LM u5.2.2.2 _ _ _ _ _ _ _ had ((hok hK).2) (by rw [if_pos hK, if_pos hK] at hsm6; exact hsm6) (by omega) (by omega))
  · refine j_iload C 703 1 dL_law_703 rfl ?_
    refine j_if_ne C 705 720 dL_law_705 (by decide) (fun _ => ?_) (fun h => absurd h (nI_n0 (kb_read (τ := τ) (w := w)) hK))
    refine j_goto C 720 964 dL_law_720 (by decide) ?_
    exact j_lv [2, 3, 4, 5, 6] rfl (nxt u5.1 u5.2.1 u5.2.2.1 u6 LM u5.2.2.2 _ _ _ _ _ _ _ had (hno hK) (by rw [if_neg hK, if_neg hK] at hsm6; exact hsm6) (by omega) (by omega))
set_option maxHeartbeats 2000000 in
set_option maxRecDepth 100000 in
theorem law_13 {D : va_G} {κ : Kx} {c : Nat → ClassId} {b L : Nat} {xs : Nat → Int32} (X : LX D κ c b L xs) {t : Nat} (ht : 5 * t + 5 ≤ L) {ad ro bd : Nat → Nat} {Z : ZT} {Lz : LT} {ZM : ZT} {LM : LT} {o : Nat} {out : Nat → Int64} {n : Nat} {τ : Tb} {w : List Nat} {st : Int32} {tr : List Nat} (hSD : g_SD n τ w st tr Z Lz) (hSM : g_SM n τ w st tr ZM) (nxt : LN D κ c ro bd o b t (ad 0)) : J D κ (100 + 4 * t) (19580 + 24 * t) 723 [(4, .int (nI (5 * t))), (0, .ref b), (1, .ref (ad 0)), (2, .ref (bd 0)), (3, .ref o)] [] (LW ad ro bd c Z Lz ZM LM o out) := by
  obtain ⟨C, hst, hxw, hxs, hxn, hX, hbl, hbA, hL, hR, hn⟩ := id X
  refine j_aload_n C 723 2 dL_law_723 rfl rfl ?_
  refine j_callcI (wr := (wm bd c ZM LM ++ [oC c o out])) (mc := 0) (ms := 0) C 724 (c_X7_stopped (jl κ) D ad ro c Z Lz  hSD) gW_X7_stopped rfl rfl rfl hd_X7_stopped (by rw [hR]; exact ⟨Nat.le_of_ble_eq_true rfl, Nat.le_of_ble_eq_true rfl⟩) (ci := 7) rfl 0 (wd_o0 ad ro c Z Lz) ks79 kMO (LW_D ad ro bd c Z Lz ZM LM o out) ks79_nd (LW_MO ad ro bd c Z Lz ZM LM o out) kMO_nd kDMO rfl (Nat.le_of_ble_eq_true rfl) (by rw [hR]; exact ⟨show _ ≤ 601024 by omega, show _ ≤ 7293034 by omega⟩) dL_law_724 (fun r5 u5 q5 => ?_)
  refine j_pick kDb kDb_nd (LW_Db ad ro bd c Z Lz ZM LM o out) ?_
  subst q5
  refine j_aload_n C 727 3 dL_law_727 rfl rfl ?_
  refine j_callcI (wr := wO ad ro c Z Lz o out) (mc := 0) (ms := 0) C 728 (c_X8_stopped (jl κ) D bd c ZM LM  hSM) gW_X8_stopped rfl rfl rfl hd_X8_stopped (by rw [hR]; exact ⟨Nat.le_of_ble_eq_true rfl, Nat.le_of_ble_eq_true rfl⟩) (ci := 8) rfl 0 (wm_o0 bd c ZM LM) kM kA (LW_M ad ro bd c Z Lz ZM LM o out) kM_nd (LW_A ad ro bd c Z Lz ZM LM o out) kA_nd kMA rfl (Nat.le_of_ble_eq_true rfl) (by rw [hR]; exact ⟨show _ ≤ 601024 by omega, show _ ≤ 7293034 by omega⟩) dL_law_728 (fun r6 u6 q6 => ?_)
  refine j_pick kMb kMb_nd (LW_Mb ad ro bd c Z Lz u6 LM o out) ?_
  obtain ⟨rfl, -, hsm⟩ := q6
  refine j_icmp_eq C 731 964 dL_law_731 (by decide) (fun _ => ?_) (fun h => absurd rfl h)
  exact j_lv [0, 1, 2, 3, 4] rfl (nxt ad Z Lz u6 LM out _ _ _ _ _ _ _ rfl (hSD) (hsm) (by omega) (by omega))
set_option maxHeartbeats 2000000 in
set_option maxRecDepth 100000 in
theorem law_14 {D : va_G} {κ : Kx} {c : Nat → ClassId} {b L : Nat} {xs : Nat → Int32} (X : LX D κ c b L xs) {t : Nat} (ht : 5 * t + 5 ≤ L) {ad ro bd : Nat → Nat} {Z : ZT} {Lz : LT} {ZM : ZT} {LM : LT} {o : Nat} {out : Nat → Int64} {n : Nat} {τ : Tb} {w : List Nat} {st : Int32} {tr : List Nat} (hSD : g_SD n τ w st tr Z Lz) (hSM : g_SM n τ w st tr ZM) (nxt : LN D κ c ro bd o b t (ad 0)) : J D κ (100 + 4 * t) (19580 + 24 * t) 736 [(4, .int (nI (5 * t))), (0, .ref b), (1, .ref (ad 0)), (2, .ref (bd 0)), (3, .ref o)] [] (LW ad ro bd c Z Lz ZM LM o out) := by
  obtain ⟨C, hst, hxw, hxs, hxn, hX, hbl, hbA, hL, hR, hn⟩ := id X
  refine j_aload_n C 736 2 dL_law_736 rfl rfl ?_
  refine j_callcI (wr := (wm bd c ZM LM ++ [oC c o out])) (mc := 0) (ms := 0) C 737 (c_X7_trace (jl κ) D ad ro c Z Lz  hSD) gW_X7_trace rfl rfl rfl hd_X7_trace (by rw [hR]; exact ⟨Nat.le_of_ble_eq_true rfl, Nat.le_of_ble_eq_true rfl⟩) (ci := 7) rfl 0 (wd_o0 ad ro c Z Lz) ks79 kMO (LW_D ad ro bd c Z Lz ZM LM o out) ks79_nd (LW_MO ad ro bd c Z Lz ZM LM o out) kMO_nd kDMO rfl (Nat.le_of_ble_eq_true rfl) (by rw [hR]; exact ⟨show _ ≤ 601024 by omega, show _ ≤ 7293034 by omega⟩) dL_law_737 (fun r5 u5 q5 => ?_)
  refine j_pick kDb kDb_nd (LW_Db ad ro bd c Z Lz ZM LM o out) ?_
  subst q5
  refine j_aload_n C 740 3 dL_law_740 rfl rfl ?_
  refine j_callcI (wr := wO ad ro c Z Lz o out) (mc := 0) (ms := 0) C 741 (c_X8_trace (jl κ) D bd c ZM LM  hSM) gW_X8_trace rfl rfl rfl hd_X8_trace (by rw [hR]; exact ⟨Nat.le_of_ble_eq_true rfl, Nat.le_of_ble_eq_true rfl⟩) (ci := 8) rfl 0 (wm_o0 bd c ZM LM) kM kA (LW_M ad ro bd c Z Lz ZM LM o out) kM_nd (LW_A ad ro bd c Z Lz ZM LM o out) kA_nd kMA rfl (Nat.le_of_ble_eq_true rfl) (by rw [hR]; exact ⟨show _ ≤ 601024 by omega, show _ ≤ 7293034 by omega⟩) dL_law_741 (fun r6 u6 q6 => ?_)
  refine j_pick kMb kMb_nd (LW_Mb ad ro bd c Z Lz u6 LM o out) ?_
  obtain ⟨rfl, -, hsm⟩ := q6
  refine j_icmp_eq C 744 964 dL_law_744 (by decide) (fun _ => ?_) (fun h => absurd rfl h)
  exact j_lv [0, 1, 2, 3, 4] rfl (nxt ad Z Lz u6 LM out _ _ _ _ _ _ _ rfl (hSD) (hsm) (by omega) (by omega))
set_option maxHeartbeats 2000000 in
set_option maxRecDepth 100000 in
theorem law_15 {D : va_G} {κ : Kx} {c : Nat → ClassId} {b L : Nat} {xs : Nat → Int32} (X : LX D κ c b L xs) {t : Nat} (ht : 5 * t + 5 ≤ L) {ad ro bd : Nat → Nat} {Z : ZT} {Lz : LT} {ZM : ZT} {LM : LT} {o : Nat} {out : Nat → Int64} {n : Nat} {τ : Tb} {w : List Nat} {st : Int32} {tr : List Nat} (hSD : g_SD n τ w st tr Z Lz) (hSM : g_SM n τ w st tr ZM) (nxt : LN D κ c ro bd o b t (ad 0)) : J D κ (100 + 4 * t) (19580 + 24 * t) 749 [(4, .int (nI (5 * t))), (0, .ref b), (1, .ref (ad 0)), (2, .ref (bd 0)), (3, .ref o)] [] (LW ad ro bd c Z Lz ZM LM o out) := by
  obtain ⟨C, hst, hxw, hxs, hxn, hX, hbl, hbA, hL, hR, hn⟩ := id X
  refine j_aload_n C 749 2 dL_law_749 rfl rfl ?_
  refine j_aload_n C 750 1 dL_law_750 rfl rfl ?_
  refine j_iload C 751 0 dL_law_751 rfl ?_
  refine j_iconst C 753 (v := nI 1) dL_law_753 rfl ?_
  refine j_iadd_e C 754 (z := nI (5 * t + 1)) dL_law_754 (nI_add _ _) ?_
  refine j_sld C hX hbl hbA (by omega) 755 (by omega) dL_law_755 ?_
  refine j_aload_n C 756 4 dL_law_756 rfl rfl ?_
  refine j_scall (wr := (wm bd c ZM LM)) (mc := 1) (ms := 6) C hxw hxs hxn 757 (c_L_step (jl κ) hst D ad ro c Z Lz o out (xs (5 * t + 1)) hSD) gW_L_step rfl rfl rfl (show yL_step.cls ≠ "java/lang/invoke/MethodHandle" ∧ yL_step.cls ≠ "java/lang/invoke/VarHandle" ∧ (parseMethodDescriptor yL_step.desc).map (fun d => d.parameters.length) = some 3 from by decide +kernel) (by rw [hR]; exact ⟨Nat.le_of_ble_eq_true rfl, Nat.le_of_ble_eq_true rfl⟩) kA kM (LW_A ad ro bd c Z Lz ZM LM o out) kA_nd (LW_M ad ro bd c Z Lz ZM LM o out) kM_nd kAM rfl (Nat.le_of_ble_eq_true rfl) (by rw [hR]; exact ⟨show _ ≤ 601024 by omega, show _ ≤ 7293034 by omega⟩) dL_law_757 (fun r5 u5 q5 => ?_)
  refine j_pick kAb kAb_nd (LW_Ab u5.1 ro bd c u5.2.1 u5.2.2.1 ZM LM o u5.2.2.2) ?_
  obtain ⟨had, rfl, hok, hno⟩ := q5
  refine j_istore C 760 (lv' := [(5, .int (nI (k_ix tr.length (xs (5 * t + 1))))), (4, .int (nI (5 * t))), (0, .ref b), (1, .ref (ad 0)), (2, .ref (bd 0)), (3, .ref o)]) dL_law_760 (by rw [hn]; decide) rfl ?_
  refine j_aload_n C 762 4 dL_law_762 rfl rfl ?_
  refine j_aload_n C 763 2 dL_law_763 rfl rfl ?_
  refine j_iload C 764 1 dL_law_764 rfl ?_
  refine j_iconst C 766 (v := nI 1) dL_law_766 rfl ?_
  refine j_iadd_e C 767 (z := nI (5 * t + 1)) dL_law_767 (nI_add _ _) ?_
  refine j_sld C hX hbl hbA (by omega) 768 (by omega) dL_law_768 ?_
  refine j_callcI (wr := wO u5.1 ro c u5.2.1 u5.2.2.1 o u5.2.2.2) (mc := 0) (ms := 0) C 769 (c_X8_step (jl κ) D bd c ZM LM (xs (5 * t + 1)) hSM) gW_X8_step rfl rfl rfl hd_X8_step (by rw [hR]; exact ⟨Nat.le_of_ble_eq_true rfl, Nat.le_of_ble_eq_true rfl⟩) (ci := 8) rfl 0 (wm_o0 bd c ZM LM) kM kA (LW_M u5.1 ro bd c u5.2.1 u5.2.2.1 ZM LM o u5.2.2.2) kM_nd (LW_A u5.1 ro bd c u5.2.1 u5.2.2.1 ZM LM o u5.2.2.2) kA_nd kMA rfl (Nat.le_of_ble_eq_true rfl) (by rw [hR]; exact ⟨show _ ≤ 601024 by omega, show _ ≤ 7293034 by omega⟩) dL_law_769 (fun r6 u6 q6 => ?_)
  refine j_pick kMb kMb_nd (LW_Mb u5.1 ro bd c u5.2.1 u5.2.2.1 u6 LM o u5.2.2.2) ?_
  obtain ⟨h40, hok6, hno6⟩ := q6
  refine j_istore C 772 (lv' := [(6, .int r6), (5, .int (nI (k_ix tr.length (xs (5 * t + 1))))), (4, .int (nI (5 * t))), (0, .ref b), (1, .ref (ad 0)), (2, .ref (bd 0)), (3, .ref o)]) dL_law_772 (by rw [hn]; decide) rfl ?_
  refine j_aload_n C 774 5 dL_law_774 rfl rfl ?_
  refine j_callcI (wr := wO u5.1 ro c u5.2.1 u5.2.2.1 o u5.2.2.2) (mc := 0) (ms := 0) C 775 (c_X8_thrown (jl κ) D bd c u6 LM  ) gW_X8_thrown rfl rfl rfl hd_X8_thrown (by rw [hR]; exact ⟨Nat.le_of_ble_eq_true rfl, Nat.le_of_ble_eq_true rfl⟩) (ci := 8) rfl 0 (wm_o0 bd c u6 LM) kM kA (LW_M u5.1 ro bd c u5.2.1 u5.2.2.1 u6 LM o u5.2.2.2) kM_nd (LW_A u5.1 ro bd c u5.2.1 u5.2.2.1 u6 LM o u5.2.2.2) kA_nd kMA rfl (Nat.le_of_ble_eq_true rfl) (by rw [hR]; exact ⟨show _ ≤ 601024 by omega, show _ ≤ 7293034 by omega⟩) dL_law_775 (fun r7 u7 q7 => ?_)
  refine j_pick kMb kMb_nd (LW_Mb u5.1 ro bd c u5.2.1 u5.2.2.1 u6 LM o u5.2.2.2) ?_
  refine j_eqi (y := nI (k_ix tr.length (xs (5 * t + 1)))) (q7.trans h40) ?_
  refine j_iload C 778 1 dL_law_778 rfl ?_
  refine j_icmp_eq C 780 785 dL_law_780 (by decide) (fun _ => ?_) (fun h => absurd rfl h)
  by_cases hK : k_ix tr.length (xs (5 * t + 1)) = 0
  · refine j_iload C 785 1 dL_law_785 rfl ?_
    refine j_eqi (y := nI 0) (by rw [hK]) ?_
    refine j_if_ne C 787 802 dL_law_787 (by decide) (fun h => absurd (show nI 0 = 0 from rfl) h) (fun _ => ?_)
    refine j_aload_n C 790 6 dL_law_790 rfl rfl ?_
    refine j_iconst C 791 (v := nI 0) dL_law_791 rfl ?_
    refine j_lald C 792 99 2 (f := u5.2.2.2) (LW_o u5.1 ro bd c u5.2.1 u5.2.2.1 u6 LM o u5.2.2.2) rfl (by decide) (by decide) dL_law_792 ?_
    refine j_eql (y := (nI (tr.getD (cN (xs (5 * t + 1))) 0)).toInt64) ((hok hK).1) ?_
    refine j_iload C 793 0 dL_law_793 rfl ?_
    refine j_eqi (y := nI (tr.getD (cN (xs (5 * t + 1))) 0)) ((hok6 hK).1) ?_
    refine j_i2l C 795 (v := (nI (tr.getD (cN (xs (5 * t + 1))) 0)).toInt64) dL_law_795 rfl ?_
    refine j_lcmp C 796 dL_law_796 ?_
    refine j_eqi (y := 0) (lg_cmp0.mpr rfl) ?_
    refine j_if_eq C 797 802 dL_law_797 (by decide) (fun _ => ?_) (fun h => absurd rfl h)
    refine j_goto C 802 964 dL_law_802 (by decide) ?_
    exact j_lv [2, 3, 4, 5, 6] rfl (nxt u5.1 u5.2.1 u5.2.2.1 u6 LM u5.2.2.2 _ _ _ _ _ _ _ had ((hok hK).2) ((hok6 hK).2) (by omega) (by omega))
  · refine j_iload C 785 1 dL_law_785 rfl ?_
    refine j_if_ne C 787 802 dL_law_787 (by decide) (fun _ => ?_) (fun h => absurd h (nI_n0 (kb_ix (τ := τ) (w := w)) hK))
    refine j_goto C 802 964 dL_law_802 (by decide) ?_
    exact j_lv [2, 3, 4, 5, 6] rfl (nxt u5.1 u5.2.1 u5.2.2.1 u6 LM u5.2.2.2 _ _ _ _ _ _ _ had (hno hK) (hno6 hK) (by omega) (by omega))
set_option maxHeartbeats 2000000 in
set_option maxRecDepth 100000 in
theorem law_16 {D : va_G} {κ : Kx} {c : Nat → ClassId} {b L : Nat} {xs : Nat → Int32} (X : LX D κ c b L xs) {t : Nat} (ht : 5 * t + 5 ≤ L) {ad ro bd : Nat → Nat} {Z : ZT} {Lz : LT} {ZM : ZT} {LM : LT} {o : Nat} {out : Nat → Int64} {n : Nat} {τ : Tb} {w : List Nat} {st : Int32} {tr : List Nat} (hSD : g_SD n τ w st tr Z Lz) (hSM : g_SM n τ w st tr ZM) (nxt : LN D κ c ro bd o b t (ad 0)) : J D κ (100 + 4 * t) (19580 + 24 * t) 805 [(4, .int (nI (5 * t))), (0, .ref b), (1, .ref (ad 0)), (2, .ref (bd 0)), (3, .ref o)] [] (LW ad ro bd c Z Lz ZM LM o out) := by
  obtain ⟨C, hst, hxw, hxs, hxn, hX, hbl, hbA, hL, hR, hn⟩ := id X
  refine j_aload_n C 805 2 dL_law_805 rfl rfl ?_
  refine j_aload_n C 806 1 dL_law_806 rfl rfl ?_
  refine j_iload C 807 0 dL_law_807 rfl ?_
  refine j_iconst C 809 (v := nI 1) dL_law_809 rfl ?_
  refine j_iadd_e C 810 (z := nI (5 * t + 1)) dL_law_810 (nI_add _ _) ?_
  refine j_sld C hX hbl hbA (by omega) 811 (by omega) dL_law_811 ?_
  refine j_aload_n C 812 1 dL_law_812 rfl rfl ?_
  refine j_iload C 813 0 dL_law_813 rfl ?_
  refine j_iconst C 815 (v := nI 2) dL_law_815 rfl ?_
  refine j_iadd_e C 816 (z := nI (5 * t + 2)) dL_law_816 (nI_add _ _) ?_
  refine j_sld C hX hbl hbA (by omega) 817 (by omega) dL_law_817 ?_
  refine j_aload_n C 818 4 dL_law_818 rfl rfl ?_
  refine j_scall (wr := (wm bd c ZM LM)) (mc := 3) (ms := 18) C hxw hxs hxn 819 (c_L_count (jl κ) hst D ad ro c Z Lz o out (xs (5 * t + 1)) (xs (5 * t + 2)) hSD) gW_L_count rfl rfl rfl (show yL_count.cls ≠ "java/lang/invoke/MethodHandle" ∧ yL_count.cls ≠ "java/lang/invoke/VarHandle" ∧ (parseMethodDescriptor yL_count.desc).map (fun d => d.parameters.length) = some 4 from by decide +kernel) (by rw [hR]; exact ⟨Nat.le_of_ble_eq_true rfl, Nat.le_of_ble_eq_true rfl⟩) kA kM (LW_A ad ro bd c Z Lz ZM LM o out) kA_nd (LW_M ad ro bd c Z Lz ZM LM o out) kM_nd kAM rfl (Nat.le_of_ble_eq_true rfl) (by rw [hR]; exact ⟨show _ ≤ 601024 by omega, show _ ≤ 7293034 by omega⟩) dL_law_819 (fun r5 u5 q5 => ?_)
  refine j_pick kAb kAb_nd (LW_Ab u5.1 ro bd c u5.2.1 u5.2.2.1 ZM LM o u5.2.2.2) ?_
  obtain ⟨had, rfl, hok, hno⟩ := q5
  refine j_istore C 822 (lv' := [(5, .int (nI (k_count n τ (xs (5 * t + 1)) (xs (5 * t + 2))))), (4, .int (nI (5 * t))), (0, .ref b), (1, .ref (ad 0)), (2, .ref (bd 0)), (3, .ref o)]) dL_law_822 (by rw [hn]; decide) rfl ?_
  refine j_aload_n C 824 4 dL_law_824 rfl rfl ?_
  refine j_aload_n C 825 2 dL_law_825 rfl rfl ?_
  refine j_iload C 826 1 dL_law_826 rfl ?_
  refine j_iconst C 828 (v := nI 1) dL_law_828 rfl ?_
  refine j_iadd_e C 829 (z := nI (5 * t + 1)) dL_law_829 (nI_add _ _) ?_
  refine j_sld C hX hbl hbA (by omega) 830 (by omega) dL_law_830 ?_
  refine j_aload_n C 831 2 dL_law_831 rfl rfl ?_
  refine j_iload C 832 1 dL_law_832 rfl ?_
  refine j_iconst C 834 (v := nI 2) dL_law_834 rfl ?_
  refine j_iadd_e C 835 (z := nI (5 * t + 2)) dL_law_835 (nI_add _ _) ?_
  refine j_sld C hX hbl hbA (by omega) 836 (by omega) dL_law_836 ?_
  refine j_callcL (wr := wO u5.1 ro c u5.2.1 u5.2.2.1 o u5.2.2.2) (mc := 0) (ms := 0) C 837 (c_X8_count (jl κ) D bd c ZM LM (xs (5 * t + 1)) (xs (5 * t + 2)) hSM) gW_X8_count rfl rfl rfl hd_X8_count (by rw [hR]; exact ⟨Nat.le_of_ble_eq_true rfl, Nat.le_of_ble_eq_true rfl⟩) (ci := 8) rfl 0 (wm_o0 bd c ZM LM) kM kA (LW_M u5.1 ro bd c u5.2.1 u5.2.2.1 ZM LM o u5.2.2.2) kM_nd (LW_A u5.1 ro bd c u5.2.1 u5.2.2.1 ZM LM o u5.2.2.2) kA_nd kMA rfl (Nat.le_of_ble_eq_true rfl) (by rw [hR]; exact ⟨show _ ≤ 601024 by omega, show _ ≤ 7293034 by omega⟩) dL_law_837 (fun r6 u6 q6 => ?_)
  refine j_pick kMb kMb_nd (LW_Mb u5.1 ro bd c u5.2.1 u5.2.2.1 u6.1 u6.2 o u5.2.2.2) ?_
  obtain ⟨h40, hok6, hno6⟩ := q6
  refine j_lstore C 840 (lv' := [(6, .long r6), (5, .int (nI (k_count n τ (xs (5 * t + 1)) (xs (5 * t + 2))))), (4, .int (nI (5 * t))), (0, .ref b), (1, .ref (ad 0)), (2, .ref (bd 0)), (3, .ref o)]) dL_law_840 (by rw [hn]; decide) rfl ?_
  refine j_aload_n C 842 5 dL_law_842 rfl rfl ?_
  refine j_callcI (wr := wO u5.1 ro c u5.2.1 u5.2.2.1 o u5.2.2.2) (mc := 0) (ms := 0) C 843 (c_X8_thrown (jl κ) D bd c u6.1 u6.2  ) gW_X8_thrown rfl rfl rfl hd_X8_thrown (by rw [hR]; exact ⟨Nat.le_of_ble_eq_true rfl, Nat.le_of_ble_eq_true rfl⟩) (ci := 8) rfl 0 (wm_o0 bd c u6.1 u6.2) kM kA (LW_M u5.1 ro bd c u5.2.1 u5.2.2.1 u6.1 u6.2 o u5.2.2.2) kM_nd (LW_A u5.1 ro bd c u5.2.1 u5.2.2.1 u6.1 u6.2 o u5.2.2.2) kA_nd kMA rfl (Nat.le_of_ble_eq_true rfl) (by rw [hR]; exact ⟨show _ ≤ 601024 by omega, show _ ≤ 7293034 by omega⟩) dL_law_843 (fun r7 u7 q7 => ?_)
  refine j_pick kMb kMb_nd (LW_Mb u5.1 ro bd c u5.2.1 u5.2.2.1 u6.1 u6.2 o u5.2.2.2) ?_
  refine j_eqi (y := nI (k_count n τ (xs (5 * t + 1)) (xs (5 * t + 2)))) (q7.trans h40) ?_
  refine j_iload C 846 1 dL_law_846 rfl ?_
  refine j_icmp_eq C 848 853 dL_law_848 (by decide) (fun _ => ?_) (fun h => absurd rfl h)
  by_cases hK : k_count n τ (xs (5 * t + 1)) (xs (5 * t + 2)) = 0
  · refine j_iload C 853 1 dL_law_853 rfl ?_
    refine j_eqi (y := nI 0) (by rw [hK]) ?_
    refine j_if_ne C 855 869 dL_law_855 (by decide) (fun h => absurd (show nI 0 = 0 from rfl) h) (fun _ => ?_)
    refine j_aload_n C 858 6 dL_law_858 rfl rfl ?_
    refine j_iconst C 859 (v := nI 0) dL_law_859 rfl ?_
    refine j_lald C 860 99 2 (f := u5.2.2.2) (LW_o u5.1 ro bd c u5.2.1 u5.2.2.1 u6.1 u6.2 o u5.2.2.2) rfl (by decide) (by decide) dL_law_860 ?_
    refine j_eql (y := lN (g_c τ (cN (xs (5 * t + 1))) (cN (xs (5 * t + 1))) (cN (xs (5 * t + 2))))) ((hok hK).1) ?_
    refine j_lload C 861 0 dL_law_861 rfl ?_
    refine j_eql (y := lN (g_c τ (cN (xs (5 * t + 1))) (cN (xs (5 * t + 1))) (cN (xs (5 * t + 2))))) ((hok6 hK).1) ?_
    refine j_lcmp C 863 dL_law_863 ?_
    refine j_eqi (y := 0) (lg_cmp0.mpr rfl) ?_
    refine j_if_eq C 864 869 dL_law_864 (by decide) (fun _ => ?_) (fun h => absurd rfl h)
    refine j_goto C 869 964 dL_law_869 (by decide) ?_
    exact j_lv [2, 3, 4, 5, 6] rfl (nxt u5.1 u5.2.1 u5.2.2.1 u6.1 u6.2 u5.2.2.2 _ _ _ _ _ _ _ had ((hok hK).2) ((hok6 hK).2) (by omega) (by omega))
  · refine j_iload C 853 1 dL_law_853 rfl ?_
    refine j_if_ne C 855 869 dL_law_855 (by decide) (fun _ => ?_) (fun h => absurd h (nI_n0 (kb_count (τ := τ) (w := w)) hK))
    refine j_goto C 869 964 dL_law_869 (by decide) ?_
    exact j_lv [2, 3, 4, 5, 6] rfl (nxt u5.1 u5.2.1 u5.2.2.1 u6.1 u6.2 u5.2.2.2 _ _ _ _ _ _ _ had (hno hK) (hno6 hK) (by omega) (by omega))
set_option maxHeartbeats 2000000 in
set_option maxRecDepth 100000 in
theorem law_17 {D : va_G} {κ : Kx} {c : Nat → ClassId} {b L : Nat} {xs : Nat → Int32} (X : LX D κ c b L xs) {t : Nat} (ht : 5 * t + 5 ≤ L) {ad ro bd : Nat → Nat} {Z : ZT} {Lz : LT} {ZM : ZT} {LM : LT} {o : Nat} {out : Nat → Int64} {n : Nat} {τ : Tb} {w : List Nat} {st : Int32} {tr : List Nat} (hSD : g_SD n τ w st tr Z Lz) (hSM : g_SM n τ w st tr ZM) (nxt : LN D κ c ro bd o b t (ad 0)) : J D κ (100 + 4 * t) (19580 + 24 * t) 872 [(4, .int (nI (5 * t))), (0, .ref b), (1, .ref (ad 0)), (2, .ref (bd 0)), (3, .ref o)] [] (LW ad ro bd c Z Lz ZM LM o out) := by
  obtain ⟨C, hst, hxw, hxs, hxn, hX, hbl, hbA, hL, hR, hn⟩ := id X
  have had : ad 0 = ad 0 := rfl
  refine j_aload_n C 872 2 dL_law_872 rfl rfl ?_
  refine j_aload_n C 873 1 dL_law_873 rfl rfl ?_
  refine j_iload C 874 0 dL_law_874 rfl ?_
  refine j_iconst C 876 (v := nI 1) dL_law_876 rfl ?_
  refine j_iadd_e C 877 (z := nI (5 * t + 1)) dL_law_877 (nI_add _ _) ?_
  refine j_sld C hX hbl hbA (by omega) 878 (by omega) dL_law_878 ?_
  refine j_aload_n C 879 1 dL_law_879 rfl rfl ?_
  refine j_iload C 880 0 dL_law_880 rfl ?_
  refine j_iconst C 882 (v := nI 2) dL_law_882 rfl ?_
  refine j_iadd_e C 883 (z := nI (5 * t + 2)) dL_law_883 (nI_add _ _) ?_
  refine j_sld C hX hbl hbA (by omega) 884 (by omega) dL_law_884 ?_
  refine j_aload_n C 885 1 dL_law_885 rfl rfl ?_
  refine j_iload C 886 0 dL_law_886 rfl ?_
  refine j_iconst C 888 (v := nI 3) dL_law_888 rfl ?_
  refine j_iadd_e C 889 (z := nI (5 * t + 3)) dL_law_889 (nI_add _ _) ?_
  refine j_sld C hX hbl hbA (by omega) 890 (by omega) dL_law_890 ?_
  refine j_i2l C 891 (v := ((xs (5 * t + 3))).toInt64) dL_law_891 rfl ?_
  refine j_bipush C 892 (v := nI 32) dL_law_892 rfl ?_
  refine j_lshl C 894 (v := ((((xs (5 * t + 3))).toInt64) <<< ((nI 32).toInt64 &&& 63))) dL_law_894 rfl ?_
  refine j_aload_n C 895 1 dL_law_895 rfl rfl ?_
  refine j_iload C 896 0 dL_law_896 rfl ?_
  refine j_iconst C 898 (v := nI 4) dL_law_898 rfl ?_
  refine j_iadd_e C 899 (z := nI (5 * t + 4)) dL_law_899 (nI_add _ _) ?_
  refine j_sld C hX hbl hbA (by omega) 900 (by omega) dL_law_900 ?_
  refine j_i2l C 901 (v := ((xs (5 * t + 4))).toInt64) dL_law_901 rfl ?_
  refine j_ldc2 C 902 (v := 4294967295) (C.t _ (List.mem_of_getElem? (i := 1066) (show lw_tbl[1066]? = some (.constantLong RL 129 (4294967295)) from by decide +kernel))) dL_law_902 ?_
  refine j_land C 905 dL_law_905 ?_
  refine j_lor C 906 dL_law_906 ?_
  refine j_scall (wr := (wm bd c ZM LM ++ [oC c o out])) (mc := 4) (ms := 24) C hxw hxs hxn 907 (c_L_find (jl κ) hst D ad ro c Z Lz (xs (5 * t + 1)) (xs (5 * t + 2)) (((((xs (5 * t + 3))).toInt64) <<< ((nI 32).toInt64 &&& 63)) ||| (((((xs (5 * t + 4))).toInt64)) &&& (4294967295 : Int64))) hSD) gW_L_find rfl rfl rfl (show yL_find.cls ≠ "java/lang/invoke/MethodHandle" ∧ yL_find.cls ≠ "java/lang/invoke/VarHandle" ∧ (parseMethodDescriptor yL_find.desc).map (fun d => d.parameters.length) = some 4 from by decide +kernel) (by rw [hR]; exact ⟨Nat.le_of_ble_eq_true rfl, Nat.le_of_ble_eq_true rfl⟩) ks79 kMO (LW_D ad ro bd c Z Lz ZM LM o out) ks79_nd (LW_MO ad ro bd c Z Lz ZM LM o out) kMO_nd kDMO rfl (Nat.le_of_ble_eq_true rfl) (by rw [hR]; exact ⟨show _ ≤ 601024 by omega, show _ ≤ 7293034 by omega⟩) dL_law_907 (fun r5 u5 q5 => ?_)
  refine j_pick kDb kDb_nd (LW_Db ad ro bd c u5.1 u5.2 ZM LM o out) ?_
  obtain ⟨rfl, hok, hno⟩ := q5
  refine j_istore C 910 (lv' := [(5, .int (nI (k_find n τ (xs (5 * t + 1)) (xs (5 * t + 2)) (((((xs (5 * t + 3))).toInt64) <<< ((nI 32).toInt64 &&& 63)) ||| (((((xs (5 * t + 4))).toInt64)) &&& (4294967295 : Int64)))))), (4, .int (nI (5 * t))), (0, .ref b), (1, .ref (ad 0)), (2, .ref (bd 0)), (3, .ref o)]) dL_law_910 (by rw [hn]; decide) rfl ?_
  refine j_aload_n C 912 4 dL_law_912 rfl rfl ?_
  refine j_aload_n C 913 2 dL_law_913 rfl rfl ?_
  refine j_iload C 914 1 dL_law_914 rfl ?_
  refine j_iconst C 916 (v := nI 1) dL_law_916 rfl ?_
  refine j_iadd_e C 917 (z := nI (5 * t + 1)) dL_law_917 (nI_add _ _) ?_
  refine j_sld C hX hbl hbA (by omega) 918 (by omega) dL_law_918 ?_
  refine j_aload_n C 919 2 dL_law_919 rfl rfl ?_
  refine j_iload C 920 1 dL_law_920 rfl ?_
  refine j_iconst C 922 (v := nI 2) dL_law_922 rfl ?_
  refine j_iadd_e C 923 (z := nI (5 * t + 2)) dL_law_923 (nI_add _ _) ?_
  refine j_sld C hX hbl hbA (by omega) 924 (by omega) dL_law_924 ?_
  refine j_aload_n C 925 2 dL_law_925 rfl rfl ?_
  refine j_iload C 926 1 dL_law_926 rfl ?_
  refine j_iconst C 928 (v := nI 3) dL_law_928 rfl ?_
  refine j_iadd_e C 929 (z := nI (5 * t + 3)) dL_law_929 (nI_add _ _) ?_
  refine j_sld C hX hbl hbA (by omega) 930 (by omega) dL_law_930 ?_
  refine j_i2l C 931 (v := ((xs (5 * t + 3))).toInt64) dL_law_931 rfl ?_
  refine j_bipush C 932 (v := nI 32) dL_law_932 rfl ?_
  refine j_lshl C 934 (v := ((((xs (5 * t + 3))).toInt64) <<< ((nI 32).toInt64 &&& 63))) dL_law_934 rfl ?_
  refine j_aload_n C 935 2 dL_law_935 rfl rfl ?_
  refine j_iload C 936 1 dL_law_936 rfl ?_
  refine j_iconst C 938 (v := nI 4) dL_law_938 rfl ?_
  refine j_iadd_e C 939 (z := nI (5 * t + 4)) dL_law_939 (nI_add _ _) ?_
  refine j_sld C hX hbl hbA (by omega) 940 (by omega) dL_law_940 ?_
  refine j_i2l C 941 (v := ((xs (5 * t + 4))).toInt64) dL_law_941 rfl ?_
  refine j_ldc2 C 942 (v := 4294967295) (C.t _ (List.mem_of_getElem? (i := 1066) (show lw_tbl[1066]? = some (.constantLong RL 129 (4294967295)) from by decide +kernel))) dL_law_942 ?_
  refine j_land C 945 dL_law_945 ?_
  refine j_lor C 946 dL_law_946 ?_
  refine j_callcV (wr := wO ad ro c u5.1 u5.2 o out) (mc := 0) (ms := 0) C 947 (c_X8_find (jl κ) D bd c ZM LM (xs (5 * t + 1)) (xs (5 * t + 2)) (((((xs (5 * t + 3))).toInt64) <<< ((nI 32).toInt64 &&& 63)) ||| (((((xs (5 * t + 4))).toInt64)) &&& (4294967295 : Int64))) hSM) gW_X8_find rfl rfl rfl hd_X8_find (by rw [hR]; exact ⟨Nat.le_of_ble_eq_true rfl, Nat.le_of_ble_eq_true rfl⟩) (ci := 8) rfl 0 (wm_o0 bd c ZM LM) kM kA (LW_M ad ro bd c u5.1 u5.2 ZM LM o out) kM_nd (LW_A ad ro bd c u5.1 u5.2 ZM LM o out) kA_nd kMA rfl (Nat.le_of_ble_eq_true rfl) (by rw [hR]; exact ⟨show _ ≤ 601024 by omega, show _ ≤ 7293034 by omega⟩) dL_law_947 (fun u6 q6 => ?_)
  refine j_pick kMb kMb_nd (LW_Mb ad ro bd c u5.1 u5.2 u6.1 u6.2 o out) ?_
  obtain ⟨h40, hok6, hno6⟩ := q6
  refine j_aload_n C 950 4 dL_law_950 rfl rfl ?_
  refine j_callcI (wr := wO ad ro c u5.1 u5.2 o out) (mc := 0) (ms := 0) C 951 (c_X8_thrown (jl κ) D bd c u6.1 u6.2  ) gW_X8_thrown rfl rfl rfl hd_X8_thrown (by rw [hR]; exact ⟨Nat.le_of_ble_eq_true rfl, Nat.le_of_ble_eq_true rfl⟩) (ci := 8) rfl 0 (wm_o0 bd c u6.1 u6.2) kM kA (LW_M ad ro bd c u5.1 u5.2 u6.1 u6.2 o out) kM_nd (LW_A ad ro bd c u5.1 u5.2 u6.1 u6.2 o out) kA_nd kMA rfl (Nat.le_of_ble_eq_true rfl) (by rw [hR]; exact ⟨show _ ≤ 601024 by omega, show _ ≤ 7293034 by omega⟩) dL_law_951 (fun r7 u7 q7 => ?_)
  refine j_pick kMb kMb_nd (LW_Mb ad ro bd c u5.1 u5.2 u6.1 u6.2 o out) ?_
  refine j_eqi (y := nI (k_find n τ (xs (5 * t + 1)) (xs (5 * t + 2)) (((((xs (5 * t + 3))).toInt64) <<< ((nI 32).toInt64 &&& 63)) ||| (((((xs (5 * t + 4))).toInt64)) &&& (4294967295 : Int64))))) (q7.trans h40) ?_
  refine j_iload C 954 0 dL_law_954 rfl ?_
  refine j_icmp_eq C 956 961 dL_law_956 (by decide) (fun _ => ?_) (fun h => absurd rfl h)
  by_cases hK : k_find n τ (xs (5 * t + 1)) (xs (5 * t + 2)) (((((xs (5 * t + 3))).toInt64) <<< ((nI 32).toInt64 &&& 63)) ||| (((((xs (5 * t + 4))).toInt64)) &&& (4294967295 : Int64))) = 0
  · refine j_goto C 961 964 dL_law_961 (by decide) ?_
    exact j_lv [1, 2, 3, 4, 5] rfl (nxt ad u5.1 u5.2 u6.1 u6.2 out _ _ _ _ _ _ _ had (hok hK) (hok6 hK) (by omega) (by omega))
  · refine j_goto C 961 964 dL_law_961 (by decide) ?_
    exact j_lv [1, 2, 3, 4, 5] rfl (nxt ad u5.1 u5.2 u6.1 u6.2 out _ _ _ _ _ _ _ had (hno hK) (hno6 hK) (by omega) (by omega))
