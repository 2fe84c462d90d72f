/-! contracts: Steps, Reader -/
theorem j_ldc {D : va_G} {κ : Kx} {cc : ByteArray} {own : String} {Ts : List Cond} {tys : List (ClassId × FieldType)} {cells slots : Nat} {lv : List (Nat × Value)} {st : List Value} {ws : va_W} (C : Cx D κ cc own Ts tys) (pc : Nat) {index : Nat} {v v' : Int32} (hc : (Jvm.Cond.constant own index v).before (ja κ) (js κ) = true) (hd : decode cc pc = .ok (.ldc index, 2)) (hv : v = v') (k : J D κ cells slots (pc + 2) lv (.int v' :: st) ws) : J D κ cells slots pc lv st ws := fun H locs ls h hP hD hS => lv_ldc C.x C.b C.o hc hd (hv ▸ k H locs ls h hP hD hS)
theorem j_ldc2 {D : va_G} {κ : Kx} {cc : ByteArray} {own : String} {Ts : List Cond} {tys : List (ClassId × FieldType)} {cells slots : Nat} {lv : List (Nat × Value)} {st : List Value} {ws : va_W} (C : Cx D κ cc own Ts tys) (pc : Nat) {index : Nat} {v : Int64} (hc : (Jvm.Cond.constantLong own index v).before (ja κ) (js κ) = true) (hd : decode cc pc = .ok (.ldc2_w index, 3)) (k : J D κ cells slots (pc + 3) lv (.long v :: st) ws) : J D κ cells slots pc lv st ws := fun H locs ls h hP hD hS => lv_ldc2 C.x C.b C.o hc hd (k H locs ls h hP hD hS)
set_option maxHeartbeats 4000000 in
set_option maxRecDepth 100000 in
theorem c_X2_forgetAll (ll : Launch) (D : va_G) (ad ro : Nat → Nat) (c : Nat → ClassId) (Z : ZT) (L : LT)   : cV (S := Unit) ll yX2_forgetAll vsX2_forgetAll ({ frames := 0, cells := 0, slots := 0, locals := 0 } : Room) D (tysG c) [.ref (ad 5)] (wd ad ro c Z L) (fun _ => wd ad ro c (upR Z 46 (fun _ => nI 0)) L) (fun _ => True) 0 0 := by
  refine cV_start (cc := cX2_forgetAll) (maxL := 1) RX2 rfl (by decide +kernel) rfl (Nat.le_of_ble_eq_true rfl) ?_
  intro κ hlκ C hr _ E hR hn
  subst hlκ
  have hL : ∀ w ∈ u_ws RX2 TX2 2, w.before (ja κ) (js κ) = true := fun w h => C.t w (mX2_forgetAll_wsX20 w h)
  have f15 : (Cond.fieldLink RX2 15 "GuardedGrammar$Steps" (TX2 1).2.1 (TX2 1).2.2.1).before (ja κ) (js κ) = true := C.t (.fieldLink RX2 15 "GuardedGrammar$Steps" "size" "I") (mX2_forgetAll_o _ (by decide +kernel))
  show J D κ 0 0 0 [(0, .ref (ad 5))] [] (wd ad ro c Z L)
  refine j_aload_n C 0 0 dX2_forgetAll_0 rfl rfl ?_
  refine j_iconst C 1 (v := nI 0) dX2_forgetAll_1 rfl ?_
  refine j_put C 2 (ci := 2) hL tyX2_ok nmX2 rfl 5 (wd_o5 ad ro c Z L) 1 (by decide) f15 rfl rfl (tyX2_ok 1 (by decide)) rfl rfl (Nat.le_of_ble_eq_true rfl) (wd_p46 ad ro c Z L (nI (0))) dX2_forgetAll_2 ?_
  exact j_vreti C hr E (Nat.le_refl _) (Nat.le_refl _) () trivial rfl dX2_forgetAll_5
set_option maxHeartbeats 4000000 in
set_option maxRecDepth 100000 in
theorem c_X2_add (ll : Launch) (D : va_G) (ad ro : Nat → Nat) (c : Nat → ClassId) (Z : ZT) (L : LT) (s k : Nat) (hz : Z 46 0 = nI k) (hk : k < 16384) (hs : s ≤ 1) : cV (S := Int64) ll yX2_add vsX2_add ({ frames := 0, cells := 0, slots := 0, locals := 0 } : Room) D (tysG c) [.ref (ad 5), .int (nI (s))] (wd ad ro c Z L) (fun x => wd ad ro c (upR Z 46 (fun _ => nI (k + 1))) (upR L 26 (vp_updL (L 26) (k / 64) x))) (fun x => ∀ i, i < 64 → g_bt x i = if i = k % 64 then decide (s = 1) else g_bt (L 26 (k / 64)) i) 0 0 := by
  refine cV_start (cc := cX2_add) (maxL := 5) RX2 rfl (by decide +kernel) rfl (Nat.le_of_ble_eq_true rfl) ?_
  intro κ hlκ C hr _ E hR hn
  subst hlκ
  have hL : ∀ w ∈ u_ws RX2 TX2 2, w.before (ja κ) (js κ) = true := fun w h => C.t w (mX2_add_wsX20 w h)
  have f15 : (Cond.fieldLink RX2 15 "GuardedGrammar$Steps" (TX2 1).2.1 (TX2 1).2.2.1).before (ja κ) (js κ) = true := C.t (.fieldLink RX2 15 "GuardedGrammar$Steps" "size" "I") (mX2_add_o _ (by decide +kernel))
  have f9 : (Cond.fieldLink RX2 9 "GuardedGrammar$Steps" (TX2 0).2.1 (TX2 0).2.2.1).before (ja κ) (js κ) = true := C.t (.fieldLink RX2 9 "GuardedGrammar$Steps" "bits" "[J") (mX2_add_o _ (by decide +kernel))
  show J D κ 0 0 0 [(0, .ref (ad 5)), (1, .int (nI (s)))] [] (wd ad ro c Z L)
  refine j_aload_n C 0 0 dX2_add_0 rfl rfl ?_
  refine j_get C 1 (ci := 2) hL rfl 5 (wd_o5 ad ro c Z L) 1 (by decide) f15 rfl (v := .int (Z 46 0)) rfl dX2_add_1 ?_
  refine j_eqi hz ?_
  refine j_sipush C 4 (v := nI 16384) dX2_add_4 rfl ?_
  refine j_icmp_lt_n C 7 11 (by omega) (by omega) dX2_add_7 (by decide) (fun _ => ?_) (fun h => absurd h (by omega))
  refine j_aload_n C 11 0 dX2_add_11 rfl rfl ?_
  refine j_get C 12 (ci := 2) hL rfl 5 (wd_o5 ad ro c Z L) 1 (by decide) f15 rfl (v := .int (Z 46 0)) rfl dX2_add_12 ?_
  refine j_eqi hz ?_
  refine j_bipush C 15 (v := nI 64) dX2_add_15 rfl ?_
  refine j_idiv_e C 17 dX2_add_17 (by decide) (pk_div (by omega) (by decide) (by decide)) ?_
  refine j_istore_n C 18 (lv' := [(2, .int (nI ((k) / 64))), (0, .ref (ad 5)), (1, .int (nI (s)))]) dX2_add_18 rfl (by rw [hn]; decide) rfl ?_
  refine j_lconst C 19 (v := lN 1) dX2_add_19 rfl ?_
  refine j_aload_n C 20 1 dX2_add_20 rfl rfl ?_
  refine j_get C 21 (ci := 2) hL rfl 5 (wd_o5 ad ro c Z L) 1 (by decide) f15 rfl (v := .int (Z 46 0)) rfl dX2_add_21 ?_
  refine j_eqi hz ?_
  refine j_bipush C 24 (v := nI 64) dX2_add_24 rfl ?_
  refine j_irem_e C 26 dX2_add_26 (by decide) (pk_rem (by omega) (by decide) (by decide)) ?_
  refine j_lshl C 27 (v := (1 : Int64) <<< ((nI (k % 64)).toInt64 &&& 63)) dX2_add_27 rfl ?_
  refine j_lstore_n C 28 (lv' := [(3, .long ((1 : Int64) <<< ((nI (k % 64)).toInt64 &&& 63))), (2, .int (nI ((k) / 64))), (0, .ref (ad 5)), (1, .int (nI (s)))]) dX2_add_28 rfl (by rw [hn]; decide) rfl ?_
  refine j_aload_n C 29 2 dX2_add_29 rfl rfl ?_
  refine j_get C 30 (ci := 2) hL rfl 5 (wd_o5 ad ro c Z L) 0 (by decide) f9 rfl (v := .ref (ad 26)) rfl dX2_add_30 ?_
  refine j_iload_n C 33 1 dX2_add_33 rfl rfl ?_
  refine j_iload_n C 34 3 dX2_add_34 rfl rfl ?_
  refine j_iconst C 35 (v := nI 1) dX2_add_35 rfl ?_
  refine j_icmp_ne_n C 36 50 (by omega) (by omega) dX2_add_36 (by decide) (fun h36 => ?_) (fun h36 => ?_)
  · refine j_aload_n C 50 2 dX2_add_50 rfl rfl ?_
    refine j_get C 51 (ci := 2) hL rfl 5 (wd_o5 ad ro c Z L) 0 (by decide) f9 rfl (v := .ref (ad 26)) rfl dX2_add_51 ?_
    refine j_iload_n C 54 1 dX2_add_54 rfl rfl ?_
    refine j_lald C 55 26 2 (f := L 26) (wd_a26 ad ro c Z L) rfl (by omega) (by decide) dX2_add_55 ?_
    refine j_lload_n C 56 0 dX2_add_56 rfl rfl ?_
    refine j_ldc2 C 57 (v := -1) (C.t _ (mX2_add_o _ (by decide +kernel))) dX2_add_57 ?_
    refine j_lxor C 60 dX2_add_60 ?_
    refine j_land C 61 dX2_add_61 ?_
    refine j_last C 62 26 2 (f := L 26) (wd_a26 ad ro c Z L) rfl (by omega) (by decide) (wd_s26 ad ro c Z L (vp_updL (L 26) ((k) / 64) (((L 26) ((k) / 64)) &&& (((1 : Int64) <<< ((nI (k % 64)).toInt64 &&& 63)) ^^^ (-1))))) dX2_add_62 ?_
    refine j_aload_n C 63 2 dX2_add_63 rfl rfl ?_
    refine j_dup C 64 dX2_add_64 rfl ?_
    refine j_get C 65 (ci := 2) hL rfl 5 (wd_o5 ad ro c Z (upR L 26 (vp_updL (L 26) ((k) / 64) (((L 26) ((k) / 64)) &&& (((1 : Int64) <<< ((nI (k % 64)).toInt64 &&& 63)) ^^^ (-1)))))) 1 (by decide) f15 rfl (v := .int (Z 46 0)) rfl dX2_add_65 ?_
    refine j_eqi hz ?_
    refine j_iconst C 68 (v := nI 1) dX2_add_68 rfl ?_
    refine j_iadd_e C 69 dX2_add_69 (nI_add _ _) ?_
    refine j_put C 70 (ci := 2) hL tyX2_ok nmX2 rfl 5 (wd_o5 ad ro c Z (upR L 26 (vp_updL (L 26) ((k) / 64) (((L 26) ((k) / 64)) &&& (((1 : Int64) <<< ((nI (k % 64)).toInt64 &&& 63)) ^^^ (-1)))))) 1 (by decide) f15 rfl rfl (tyX2_ok 1 (by decide)) rfl rfl (Nat.le_of_ble_eq_true rfl) (wd_p46 ad ro c Z (upR L 26 (vp_updL (L 26) ((k) / 64) (((L 26) ((k) / 64)) &&& (((1 : Int64) <<< ((nI (k % 64)).toInt64 &&& 63)) ^^^ (-1))))) (nI (k + 1))) dX2_add_70 ?_
    exact j_vreti C hr E (Nat.le_refl _) (Nat.le_refl _) ((L 26 (k / 64)) &&& (((1 : Int64) <<< ((nI (k % 64)).toInt64 &&& 63)) ^^^ (-1))) (fun i hi => by rw [g_bt_andn (g_sh _ (Nat.mod_lt _ (by decide))) (Nat.mod_lt _ (by decide)) hi]; by_cases e : i = k % 64 <;> simp [e, h36]) rfl dX2_add_73
  · refine j_aload_n C 39 2 dX2_add_39 rfl rfl ?_
    refine j_get C 40 (ci := 2) hL rfl 5 (wd_o5 ad ro c Z L) 0 (by decide) f9 rfl (v := .ref (ad 26)) rfl dX2_add_40 ?_
    refine j_iload_n C 43 1 dX2_add_43 rfl rfl ?_
    refine j_lald C 44 26 2 (f := L 26) (wd_a26 ad ro c Z L) rfl (by omega) (by decide) dX2_add_44 ?_
    refine j_lload_n C 45 0 dX2_add_45 rfl rfl ?_
    refine j_lor C 46 dX2_add_46 ?_
    refine j_goto C 47 62 dX2_add_47 (by decide) ?_
    refine j_last C 62 26 2 (f := L 26) (wd_a26 ad ro c Z L) rfl (by omega) (by decide) (wd_s26 ad ro c Z L (vp_updL (L 26) ((k) / 64) (((L 26) ((k) / 64)) ||| ((1 : Int64) <<< ((nI (k % 64)).toInt64 &&& 63))))) dX2_add_62 ?_
    refine j_aload_n C 63 2 dX2_add_63 rfl rfl ?_
    refine j_dup C 64 dX2_add_64 rfl ?_
    refine j_get C 65 (ci := 2) hL rfl 5 (wd_o5 ad ro c Z (upR L 26 (vp_updL (L 26) ((k) / 64) (((L 26) ((k) / 64)) ||| ((1 : Int64) <<< ((nI (k % 64)).toInt64 &&& 63)))))) 1 (by decide) f15 rfl (v := .int (Z 46 0)) rfl dX2_add_65 ?_
    refine j_eqi hz ?_
    refine j_iconst C 68 (v := nI 1) dX2_add_68 rfl ?_
    refine j_iadd_e C 69 dX2_add_69 (nI_add _ _) ?_
    refine j_put C 70 (ci := 2) hL tyX2_ok nmX2 rfl 5 (wd_o5 ad ro c Z (upR L 26 (vp_updL (L 26) ((k) / 64) (((L 26) ((k) / 64)) ||| ((1 : Int64) <<< ((nI (k % 64)).toInt64 &&& 63)))))) 1 (by decide) f15 rfl rfl (tyX2_ok 1 (by decide)) rfl rfl (Nat.le_of_ble_eq_true rfl) (wd_p46 ad ro c Z (upR L 26 (vp_updL (L 26) ((k) / 64) (((L 26) ((k) / 64)) ||| ((1 : Int64) <<< ((nI (k % 64)).toInt64 &&& 63))))) (nI (k + 1))) dX2_add_70 ?_
    exact j_vreti C hr E (Nat.le_refl _) (Nat.le_refl _) ((L 26 (k / 64)) ||| ((1 : Int64) <<< ((nI (k % 64)).toInt64 &&& 63))) (fun i hi => by rw [g_bt_or (g_sh _ (Nat.mod_lt _ (by decide))) (Nat.mod_lt _ (by decide))]; by_cases e : i = k % 64 <;> simp [e, h36]) rfl dX2_add_73
set_option maxHeartbeats 4000000 in
set_option maxRecDepth 100000 in
theorem c_X2_size (ll : Launch) (D : va_G) (ad ro : Nat → Nat) (c : Nat → ClassId) (Z : ZT) (L : LT)   : cI (S := Unit) ll yX2_size vsX2_size ({ frames := 0, cells := 0, slots := 0, locals := 0 } : Room) D (tysG c) [.ref (ad 6)] (wd ad ro c Z L) (fun _ => wd ad ro c Z L) (fun r _ => r = Z 47 0) 0 0 := by
  refine cI_start (cc := cX2_size) (maxL := 1) RX2 rfl (by decide +kernel) rfl (Nat.le_of_ble_eq_true rfl) ?_
  intro κ hlκ C hr _ E hR hn
  subst hlκ
  have hL : ∀ w ∈ u_ws RX2 TX2 2, w.before (ja κ) (js κ) = true := fun w h => C.t w (mX2_size_wsX20 w h)
  have f15 : (Cond.fieldLink RX2 15 "GuardedGrammar$Steps" (TX2 1).2.1 (TX2 1).2.2.1).before (ja κ) (js κ) = true := C.t (.fieldLink RX2 15 "GuardedGrammar$Steps" "size" "I") (mX2_size_o _ (by decide +kernel))
  show J D κ 0 0 0 [(0, .ref (ad 6))] [] (wd ad ro c Z L)
  refine j_aload_n C 0 0 dX2_size_0 rfl rfl ?_
  refine j_get C 1 (ci := 2) hL rfl 6 (wd_o6 ad ro c Z L) 1 (by decide) f15 rfl (v := .int (Z 47 0)) rfl dX2_size_1 ?_
  exact j_ireti C hr E (Nat.le_refl _) (Nat.le_refl _) rfl () rfl rfl dX2_size_4
set_option maxHeartbeats 4000000 in
set_option maxRecDepth 100000 in
theorem c_X2_at (ll : Launch) (D : va_G) (ad ro : Nat → Nat) (c : Nat → ClassId) (Z : ZT) (L : LT) (i : Nat) (hi : i < 16384) : cI (S := Unit) ll yX2_at vsX2_at ({ frames := 0, cells := 0, slots := 0, locals := 0 } : Room) D (tysG c) [.ref (ad 6), .int (nI (i))] (wd ad ro c Z L) (fun _ => wd ad ro c Z L) (fun r _ => r = nI (if g_bt (L 27 (i / 64)) (i % 64) then 1 else 0)) 0 0 := by
  refine cI_start (cc := cX2_at) (maxL := 2) RX2 rfl (by decide +kernel) rfl (Nat.le_of_ble_eq_true rfl) ?_
  intro κ hlκ C hr _ E hR hn
  subst hlκ
  have hL : ∀ w ∈ u_ws RX2 TX2 2, w.before (ja κ) (js κ) = true := fun w h => C.t w (mX2_at_wsX20 w h)
  have f9 : (Cond.fieldLink RX2 9 "GuardedGrammar$Steps" (TX2 0).2.1 (TX2 0).2.2.1).before (ja κ) (js κ) = true := C.t (.fieldLink RX2 9 "GuardedGrammar$Steps" "bits" "[J") (mX2_at_o _ (by decide +kernel))
  show J D κ 0 0 0 [(0, .ref (ad 6)), (1, .int (nI (i)))] [] (wd ad ro c Z L)
  refine j_aload_n C 0 0 dX2_at_0 rfl rfl ?_
  refine j_get C 1 (ci := 2) hL rfl 6 (wd_o6 ad ro c Z L) 0 (by decide) f9 rfl (v := .ref (ad 27)) rfl dX2_at_1 ?_
  refine j_iload_n C 4 1 dX2_at_4 rfl rfl ?_
  refine j_bipush C 5 (v := nI 64) dX2_at_5 rfl ?_
  refine j_idiv_e C 7 dX2_at_7 (by decide) (pk_div (by omega) (by decide) (by decide)) ?_
  refine j_lald C 8 27 2 (f := L 27) (wd_a27 ad ro c Z L) rfl (by omega) (by decide) dX2_at_8 ?_
  refine j_iload_n C 9 1 dX2_at_9 rfl rfl ?_
  refine j_bipush C 10 (v := nI 64) dX2_at_10 rfl ?_
  refine j_irem_e C 12 dX2_at_12 (by decide) (pk_rem (by omega) (by decide) (by decide)) ?_
  refine j_lushr C 13 dX2_at_13 rfl ?_
  refine j_lconst C 14 (v := lN 1) dX2_at_14 rfl ?_
  refine j_land C 15 dX2_at_15 ?_
  refine j_l2i C 16 dX2_at_16 rfl ?_
  refine j_eqi (g_bt_get (Nat.mod_lt _ (by decide))) ?_
  exact j_ireti C hr E (Nat.le_refl _) (Nat.le_refl _) rfl () rfl rfl dX2_at_17
