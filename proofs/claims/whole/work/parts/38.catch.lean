/-! calls of what throws, with handlers; static calls of what catches -/
section JY
variable {S SX : Type} {D : va_G} {κ : Kx} {cc : ByteArray} {own : String} {Ts : List Cond} {tys : List (ClassId × FieldType)} {hh : List (Nat × Nat × Nat × Nat)} {cells slots mc ms n index maxL ci : Nat} {lv : List (Nat × Value)} {st stk As : List Value} {ws wr w0 : va_W} {wf : S → va_W} {wfx : SX → va_W} {px : String → SX → Prop} {y : MethodName} {bytes : ByteArray} {wsC ws' : List Cond} {rm : Room} {b : Nat} {K : String} {T : u_T} {N : Nat} {fs : List Value}
theorem j_ycallI {rt : FieldType} {post : Int32 → S → Prop} (Y : CY D κ cc own Ts tys hh) (pc : Nat) (hM : cXI (jl κ) y wsC rm D tys (.ref b :: As) w0 wf post wfx px mc ms) (hG : GoodIn Ts (wsV own index K y wsC)) (hwc : wsC = Cond.code y bytes maxL (some rt) :: ws') (hrc : rm.cells = mc) (hrs : rm.slots = ms) (hdd : y.cls = K ∧ y.cls ≠ "java/lang/invoke/MethodHandle" ∧ y.cls ≠ "java/lang/invoke/VarHandle" ∧ (parseMethodDescriptor y.desc).map (fun d => d.parameters.length) = some As.length) (hR : rm.frames + 1 ≤ (jR κ).frames ∧ 8 + (maxL + 11) + rm.locals ≤ (jR κ).locals) (hc : vwCl[ci]? = some (K, T, N)) (q0 : Nat) (he : w0[q0]? = some (b, .inr (ci, fs))) (isC isR : List Nat) (hC : isC.map (fun i => ws[i]?) = w0.map some) (hn : va_nd isC = true) (hRr : isR.map (fun i => ws[i]?) = wr.map some) (hnr : va_nd isR = true) (hdis : ∀ i ∈ isR, i ∉ isC) (hst : stk = As.reverse ++ .ref b :: st) (hcat : (st.map fun v => v.category).sum ≤ 8) (hf : cells + mc ≤ (jR κ).cells ∧ slots + ms ≤ (jR κ).slots) (hd : decode cc pc = .ok (.invokevirtual index, 3))
    (es : List String) (hnd : es.Nodup) (hlen : (tableOf hh).length = es.length) (hes : ∀ (j : Nat) (z : ExceptionTableEntry), (tableOf hh)[j]? = some z → ∃ nm, es[j]? = some nm ∧ nm ∈ xEs ∧ covers z pc = true ∧ z.catchType ≠ 0 ∧ (Cond.classLink own z.catchType nm).before (ja κ) (js κ) = true) (hpx : ∀ (E : String) (u : SX), px E u → ∃ i : Nat, es[i]? = some E)
    (kx : ∀ (i : Nat) (E : String) (u : SX) (z : ExceptionTableEntry), px E u → es[i]? = some E → (tableOf hh)[i]? = some z → ∀ q9, J D κ (cells + mc) (slots + ms) z.handlerPc lv [.ref q9] (wr ++ wfx u))
    (kk : ∀ (r : Int32) (u : S), post r u → J D κ (cells + mc) (slots + ms) (pc + 3) lv (.int r :: st) (wr ++ wf u)) : J D κ cells slots pc lv stk ws := by
  intro H locs ls h hP hD hS
  obtain ⟨C, htab, hxw, hxs, hxn⟩ := Y
  have hF := va_free (wc := w0) hD hS C.a isC hC
  have hPc : va_P D vwCl w0 H := hP.sub isC (by
    have e := congrArg (fun l : List (Option (Nat × va_E)) => l.filterMap id) hC
    simpa [List.filterMap_map, Function.comp_def] using e)
  have hDc : va_D (jA κ) w0 := hD.sub isC hn hC
  subst hst
  refine vx_calli (vx_runV (As := As) (rest := st) ⟨C.x, C.b, C.n, C.o, C.t⟩ (hM H.size) (cwV As.length C.t hG hwc hrc hrs hdd hR) ⟨cXPre_blind, va_recv C.k hPc hc he, fun U hU hW => ⟨rfl, by rw [hU], by rw [hU]; exact hPc, va_K.moved hW.alike C.k, hDc.weaken (fun _ _ _ _ => trivial), xW.warm hW hxw, xS.to hxs hS hF hU hW⟩⟩ rfl rfl h.1 rfl (lv_room hcat) hd hf) hS (fun q _ h => hF q h) hF (fun q _ h => hF q h) (fun E9 ce q9 u t H1 locs1 ht hvm _ hB hz1 hk1 hS1 hce hcv hcl => ?_) (fun r u t H1 locs1 ht hvm hp hB hz1 hk1 hS1 => ?_)
  · obtain ⟨hp9, hP1, hK1, hD1⟩ := hB
    rw [ht] at hP1
    obtain ⟨hP2, hD2⟩ := va_join (wr := wr) (w1 := wfx u) hP hD isC isR hC hRr hnr hdis hk1 hF hP1 hD1
    obtain ⟨i, hi⟩ := hpx E9 u hp9
    have hlt : i < (tableOf hh).length := by rw [hlen]; exact (List.getElem?_eq_some_iff.mp hi).1
    have hz : (tableOf hh)[i]? = some (tableOf hh)[i] := List.getElem?_eq_getElem hlt
    obtain ⟨nm, e1, e2, e3, e4, e5⟩ := hes i _ hz
    cases Option.some.inj (e1.symm.trans hi)
    refine vx_catch (name := E9) C.o ((tableOf hh).take i) (tableOf hh)[i] ((tableOf hh).drop (i + 1)) ?_ (fun z hz9 => ?_) e3 e4 e5 (va_Nw.use rfl (hxw.2.2.2 E9 e2)) hce hcv hcl (kx i E9 u _ hp9 hi hz q9 H1 locs1 ls h hP2 hD2 hS1)
    · rw [htab, ← List.drop_eq_getElem_cons hlt, List.take_append_drop]
    · obtain ⟨j, hj, hjz⟩ := List.mem_iff_getElem.mp hz9
      rw [List.length_take] at hj
      have hjz2 : (tableOf hh)[j]? = some z := by
        rw [List.getElem_take] at hjz
        rw [← hjz]
        exact List.getElem?_eq_getElem (by omega)
      obtain ⟨nm2, g1, g2, g3, g4, g5⟩ := hes j z hjz2
      refine Or.inr ⟨g4, nm2, g5, hxn E9 e2 nm2 g2 (fun e9 => ?_)⟩
      have hij : i = j := (List.getElem?_inj (by rw [← hlen]; exact hlt) hnd).mp (by rw [hi, g1, e9])
      omega
  · obtain ⟨hP1, hK1, hD1⟩ := hB
    rw [ht] at hP1
    obtain ⟨hP2, hD2⟩ := va_join (wr := wr) (w1 := wf u) hP hD isC isR hC hRr hnr hdis hk1 hF hP1 hD1
    exact kk r u hp H1 locs1 ls h hP2 hD2 hS1
theorem j_ycallL {post : Int64 → S → Prop} (Y : CY D κ cc own Ts tys hh) (pc : Nat) (hM : cXL (jl κ) y wsC rm D tys (.ref b :: As) w0 wf post wfx px mc ms) (hG : GoodIn Ts (wsV own index K y wsC)) (hwc : wsC = Cond.code y bytes maxL (some .long) :: ws') (hrc : rm.cells = mc) (hrs : rm.slots = ms) (hdd : y.cls = K ∧ y.cls ≠ "java/lang/invoke/MethodHandle" ∧ y.cls ≠ "java/lang/invoke/VarHandle" ∧ (parseMethodDescriptor y.desc).map (fun d => d.parameters.length) = some As.length) (hR : rm.frames + 1 ≤ (jR κ).frames ∧ 8 + (maxL + 11) + rm.locals ≤ (jR κ).locals) (hc : vwCl[ci]? = some (K, T, N)) (q0 : Nat) (he : w0[q0]? = some (b, .inr (ci, fs))) (isC isR : List Nat) (hC : isC.map (fun i => ws[i]?) = w0.map some) (hn : va_nd isC = true) (hRr : isR.map (fun i => ws[i]?) = wr.map some) (hnr : va_nd isR = true) (hdis : ∀ i ∈ isR, i ∉ isC) (hst : stk = As.reverse ++ .ref b :: st) (hcat : (st.map fun v => v.category).sum ≤ 8) (hf : cells + mc ≤ (jR κ).cells ∧ slots + ms ≤ (jR κ).slots) (hd : decode cc pc = .ok (.invokevirtual index, 3))
    (es : List String) (hnd : es.Nodup) (hlen : (tableOf hh).length = es.length) (hes : ∀ (j : Nat) (z : ExceptionTableEntry), (tableOf hh)[j]? = some z → ∃ nm, es[j]? = some nm ∧ nm ∈ xEs ∧ covers z pc = true ∧ z.catchType ≠ 0 ∧ (Cond.classLink own z.catchType nm).before (ja κ) (js κ) = true) (hpx : ∀ (E : String) (u : SX), px E u → ∃ i : Nat, es[i]? = some E)
    (kx : ∀ (i : Nat) (E : String) (u : SX) (z : ExceptionTableEntry), px E u → es[i]? = some E → (tableOf hh)[i]? = some z → ∀ q9, J D κ (cells + mc) (slots + ms) z.handlerPc lv [.ref q9] (wr ++ wfx u))
    (kk : ∀ (r : Int64) (u : S), post r u → J D κ (cells + mc) (slots + ms) (pc + 3) lv (.long r :: st) (wr ++ wf u)) : J D κ cells slots pc lv stk ws := by
  intro H locs ls h hP hD hS
  obtain ⟨C, htab, hxw, hxs, hxn⟩ := Y
  have hF := va_free (wc := w0) hD hS C.a isC hC
  have hPc : va_P D vwCl w0 H := hP.sub isC (by
    have e := congrArg (fun l : List (Option (Nat × va_E)) => l.filterMap id) hC
    simpa [List.filterMap_map, Function.comp_def] using e)
  have hDc : va_D (jA κ) w0 := hD.sub isC hn hC
  subst hst
  refine vx_calll (vx_runV (As := As) (rest := st) ⟨C.x, C.b, C.n, C.o, C.t⟩ (hM H.size) (cwV As.length C.t hG hwc hrc hrs hdd hR) ⟨cXPre_blind, va_recv C.k hPc hc he, fun U hU hW => ⟨rfl, by rw [hU], by rw [hU]; exact hPc, va_K.moved hW.alike C.k, hDc.weaken (fun _ _ _ _ => trivial), xW.warm hW hxw, xS.to hxs hS hF hU hW⟩⟩ rfl rfl h.1 rfl (lv_room hcat) hd hf) hS (fun q _ h => hF q h) hF (fun q _ h => hF q h) (fun E9 ce q9 u t H1 locs1 ht hvm _ hB hz1 hk1 hS1 hce hcv hcl => ?_) (fun r u t H1 locs1 ht hvm hp hB hz1 hk1 hS1 => ?_)
  · obtain ⟨hp9, hP1, hK1, hD1⟩ := hB
    rw [ht] at hP1
    obtain ⟨hP2, hD2⟩ := va_join (wr := wr) (w1 := wfx u) hP hD isC isR hC hRr hnr hdis hk1 hF hP1 hD1
    obtain ⟨i, hi⟩ := hpx E9 u hp9
    have hlt : i < (tableOf hh).length := by rw [hlen]; exact (List.getElem?_eq_some_iff.mp hi).1
    have hz : (tableOf hh)[i]? = some (tableOf hh)[i] := List.getElem?_eq_getElem hlt
    obtain ⟨nm, e1, e2, e3, e4, e5⟩ := hes i _ hz
    cases Option.some.inj (e1.symm.trans hi)
    refine vx_catch (name := E9) C.o ((tableOf hh).take i) (tableOf hh)[i] ((tableOf hh).drop (i + 1)) ?_ (fun z hz9 => ?_) e3 e4 e5 (va_Nw.use rfl (hxw.2.2.2 E9 e2)) hce hcv hcl (kx i E9 u _ hp9 hi hz q9 H1 locs1 ls h hP2 hD2 hS1)
    · rw [htab, ← List.drop_eq_getElem_cons hlt, List.take_append_drop]
    · obtain ⟨j, hj, hjz⟩ := List.mem_iff_getElem.mp hz9
      rw [List.length_take] at hj
      have hjz2 : (tableOf hh)[j]? = some z := by
        rw [List.getElem_take] at hjz
        rw [← hjz]
        exact List.getElem?_eq_getElem (by omega)
      obtain ⟨nm2, g1, g2, g3, g4, g5⟩ := hes j z hjz2
      refine Or.inr ⟨g4, nm2, g5, hxn E9 e2 nm2 g2 (fun e9 => ?_)⟩
      have hij : i = j := (List.getElem?_inj (by rw [← hlen]; exact hlt) hnd).mp (by rw [hi, g1, e9])
      omega
  · obtain ⟨hP1, hK1, hD1⟩ := hB
    rw [ht] at hP1
    obtain ⟨hP2, hD2⟩ := va_join (wr := wr) (w1 := wf u) hP hD isC isR hC hRr hnr hdis hk1 hF hP1 hD1
    exact kk r u hp H1 locs1 ls h hP2 hD2 hS1
theorem j_ycallV {post : S → Prop} (Y : CY D κ cc own Ts tys hh) (pc : Nat) (hM : cXV (jl κ) y wsC rm D tys (.ref b :: As) w0 wf post wfx px mc ms) (hG : GoodIn Ts (wsV own index K y wsC)) (hwc : wsC = Cond.code y bytes maxL (none) :: ws') (hrc : rm.cells = mc) (hrs : rm.slots = ms) (hdd : y.cls = K ∧ y.cls ≠ "java/lang/invoke/MethodHandle" ∧ y.cls ≠ "java/lang/invoke/VarHandle" ∧ (parseMethodDescriptor y.desc).map (fun d => d.parameters.length) = some As.length) (hR : rm.frames + 1 ≤ (jR κ).frames ∧ 8 + (maxL + 11) + rm.locals ≤ (jR κ).locals) (hc : vwCl[ci]? = some (K, T, N)) (q0 : Nat) (he : w0[q0]? = some (b, .inr (ci, fs))) (isC isR : List Nat) (hC : isC.map (fun i => ws[i]?) = w0.map some) (hn : va_nd isC = true) (hRr : isR.map (fun i => ws[i]?) = wr.map some) (hnr : va_nd isR = true) (hdis : ∀ i ∈ isR, i ∉ isC) (hst : stk = As.reverse ++ .ref b :: st) (hcat : (st.map fun v => v.category).sum ≤ 8) (hf : cells + mc ≤ (jR κ).cells ∧ slots + ms ≤ (jR κ).slots) (hd : decode cc pc = .ok (.invokevirtual index, 3))
    (es : List String) (hnd : es.Nodup) (hlen : (tableOf hh).length = es.length) (hes : ∀ (j : Nat) (z : ExceptionTableEntry), (tableOf hh)[j]? = some z → ∃ nm, es[j]? = some nm ∧ nm ∈ xEs ∧ covers z pc = true ∧ z.catchType ≠ 0 ∧ (Cond.classLink own z.catchType nm).before (ja κ) (js κ) = true) (hpx : ∀ (E : String) (u : SX), px E u → ∃ i : Nat, es[i]? = some E)
    (kx : ∀ (i : Nat) (E : String) (u : SX) (z : ExceptionTableEntry), px E u → es[i]? = some E → (tableOf hh)[i]? = some z → ∀ q9, J D κ (cells + mc) (slots + ms) z.handlerPc lv [.ref q9] (wr ++ wfx u))
    (kk : ∀ (u : S), post u → J D κ (cells + mc) (slots + ms) (pc + 3) lv (st) (wr ++ wf u)) : J D κ cells slots pc lv stk ws := by
  intro H locs ls h hP hD hS
  obtain ⟨C, htab, hxw, hxs, hxn⟩ := Y
  have hF := va_free (wc := w0) hD hS C.a isC hC
  have hPc : va_P D vwCl w0 H := hP.sub isC (by
    have e := congrArg (fun l : List (Option (Nat × va_E)) => l.filterMap id) hC
    simpa [List.filterMap_map, Function.comp_def] using e)
  have hDc : va_D (jA κ) w0 := hD.sub isC hn hC
  subst hst
  refine vx_callv (vx_runV (As := As) (rest := st) ⟨C.x, C.b, C.n, C.o, C.t⟩ (hM H.size) (cwV As.length C.t hG hwc hrc hrs hdd hR) ⟨cXPre_blind, va_recv C.k hPc hc he, fun U hU hW => ⟨rfl, by rw [hU], by rw [hU]; exact hPc, va_K.moved hW.alike C.k, hDc.weaken (fun _ _ _ _ => trivial), xW.warm hW hxw, xS.to hxs hS hF hU hW⟩⟩ rfl rfl h.1 rfl (lv_room hcat) hd hf) hS (fun q _ h => hF q h) hF (fun q _ h => hF q h) (fun E9 ce q9 u t H1 locs1 ht hvm _ hB hz1 hk1 hS1 hce hcv hcl => ?_) (fun u t H1 locs1 ht hvm hp hB hz1 hk1 hS1 => ?_)
  · obtain ⟨hp9, hP1, hK1, hD1⟩ := hB
    rw [ht] at hP1
    obtain ⟨hP2, hD2⟩ := va_join (wr := wr) (w1 := wfx u) hP hD isC isR hC hRr hnr hdis hk1 hF hP1 hD1
    obtain ⟨i, hi⟩ := hpx E9 u hp9
    have hlt : i < (tableOf hh).length := by rw [hlen]; exact (List.getElem?_eq_some_iff.mp hi).1
    have hz : (tableOf hh)[i]? = some (tableOf hh)[i] := List.getElem?_eq_getElem hlt
    obtain ⟨nm, e1, e2, e3, e4, e5⟩ := hes i _ hz
    cases Option.some.inj (e1.symm.trans hi)
    refine vx_catch (name := E9) C.o ((tableOf hh).take i) (tableOf hh)[i] ((tableOf hh).drop (i + 1)) ?_ (fun z hz9 => ?_) e3 e4 e5 (va_Nw.use rfl (hxw.2.2.2 E9 e2)) hce hcv hcl (kx i E9 u _ hp9 hi hz q9 H1 locs1 ls h hP2 hD2 hS1)
    · rw [htab, ← List.drop_eq_getElem_cons hlt, List.take_append_drop]
    · obtain ⟨j, hj, hjz⟩ := List.mem_iff_getElem.mp hz9
      rw [List.length_take] at hj
      have hjz2 : (tableOf hh)[j]? = some z := by
        rw [List.getElem_take] at hjz
        rw [← hjz]
        exact List.getElem?_eq_getElem (by omega)
      obtain ⟨nm2, g1, g2, g3, g4, g5⟩ := hes j z hjz2
      refine Or.inr ⟨g4, nm2, g5, hxn E9 e2 nm2 g2 (fun e9 => ?_)⟩
      have hij : i = j := (List.getElem?_inj (by rw [← hlen]; exact hlt) hnd).mp (by rw [hi, g1, e9])
      omega
  · obtain ⟨hP1, hK1, hD1⟩ := hB
    rw [ht] at hP1
    obtain ⟨hP2, hD2⟩ := va_join (wr := wr) (w1 := wf u) hP hD isC isR hC hRr hnr hdis hk1 hF hP1 hD1
    exact kk  u hp H1 locs1 ls h hP2 hD2 hS1
/-- a static call of what lets nothing through -/
theorem j_scall {rt : FieldType} {post : Int32 → S → Prop} (C : Cx D κ cc own Ts tys) (hxw : xW (js κ)) (hxs : xS (jA κ) (js κ) (js κ).heap) (hxn : xN5 (js κ)) (pc : Nat) (hM : cYI (jl κ) y wsC rm D tys As w0 wf post mc ms) (hG : GoodIn Ts (va_wsS own index y wsC)) (hwc : wsC = Cond.codeWith y bytes maxL (some rt) hh :: ws') (hrc : rm.cells = mc) (hrs : rm.slots = ms) (hdd : y.cls ≠ "java/lang/invoke/MethodHandle" ∧ y.cls ≠ "java/lang/invoke/VarHandle" ∧ (parseMethodDescriptor y.desc).map (fun d => d.parameters.length) = some As.length) (hR : rm.frames + 1 ≤ (jR κ).frames ∧ 8 + (maxL + 11) + rm.locals ≤ (jR κ).locals) (isC isR : List Nat) (hC : isC.map (fun i => ws[i]?) = w0.map some) (hn : va_nd isC = true) (hRr : isR.map (fun i => ws[i]?) = wr.map some) (hnr : va_nd isR = true) (hdis : ∀ i ∈ isR, i ∉ isC) (hst : stk = As.reverse ++ st) (hcat : (st.map fun v => v.category).sum ≤ 8) (hf : cells + mc ≤ (jR κ).cells ∧ slots + ms ≤ (jR κ).slots) (hd : decode cc pc = .ok (.invokestatic index, 3))
    (kk : ∀ (r : Int32) (u : S), post r u → J D κ (cells + mc) (slots + ms) (pc + 3) lv (.int r :: st) (wr ++ wf u)) : J D κ cells slots pc lv stk ws := by
  intro H locs ls h hP hD hS
  have hF := va_free (wc := w0) hD hS C.a isC hC
  have hPc : va_P D vwCl w0 H := hP.sub isC (by
    have e := congrArg (fun l : List (Option (Nat × va_E)) => l.filterMap id) hC
    simpa [List.filterMap_map, Function.comp_def] using e)
  have hDc : va_D (jA κ) w0 := hD.sub isC hn hC
  subst hst
  refine vx_calli (vx_runSX (As := As) (rest := st) ⟨C.x, C.b, C.n, C.o, C.t⟩ (hM H.size) (vx_cwSW As.length C.t hG hwc hrc hrs hdd hR) ⟨cYPre_blind, fun U hU hW => ⟨rfl, by rw [hU], by rw [hU]; exact hPc, va_K.moved hW.alike C.k, hDc.weaken (fun _ _ _ _ => trivial), xW.warm hW hxw, xS.to hxs hS hF hU hW, xN5.moved hW.alike hxn⟩⟩ rfl rfl h.1 rfl (lv_room hcat) hd hf) hS (fun q _ h => hF q h) hF (fun q _ h => hF q h) (fun E9 ce q9 u t H1 locs1 ht hvm _ hB hz1 hk1 hS1 hce hcv hcl => ?_) (fun r u t H1 locs1 ht hvm hp hB hz1 hk1 hS1 => ?_)
  · exact hB.1.elim
  · obtain ⟨hP1, hK1, hD1⟩ := hB
    rw [ht] at hP1
    obtain ⟨hP2, hD2⟩ := va_join (wr := wr) (w1 := wf u) hP hD isC isR hC hRr hnr hdis hk1 hF hP1 hD1
    exact kk r u hp H1 locs1 ls h hP2 hD2 hS1
end JY
