/-! making: objects, arrays, constructors over J -/
theorem va_AOA.warm {ty : FieldType} {s U : State} (hW : s.WarmedH U.vm) (h : va_AOA ty s) : va_AOA ty U := by
  have h2 : (Cond.arrayOver (.array ty)).before #[] (s.setVm U.vm) = true := (Cond.arrayOver_setVmC (args := #[]) hW.alike (.array ty)).trans h
  exact h2
theorem va_AOA.same {ty : FieldType} {u U : State} (hv : u.vm = U.vm) (h : va_AOA ty u) : va_AOA ty U := by
  have h2 : (Cond.arrayOver (.array ty)).before #[] (u.setVm U.vm) = true := by rw [← hv]; exact h
  exact h2
/-- the tables' words of making that no method's list holds -/
def xI (U : State) : Prop := va_AOA .long U ∧ va_Nw (.methodLinkNest RX7 11 yX4_init "GuardedGrammar") U ∧ va_Nw (.methodLinkNest RX7 27 yX6_init "GuardedGrammar") U ∧ va_Nw (.methodLinkNest RX0 27 yX2_init "GuardedGrammar") U
theorem xI.warm {s U : State} (hW : s.WarmedH U.vm) (h : xI s) : xI U := ⟨va_AOA.warm hW h.1, va_Nw.warmM hW h.2.1, va_Nw.warmM hW h.2.2.1, va_Nw.warmM hW h.2.2.2⟩
theorem xI.same {s U : State} (hv : s.vm = U.vm) (h : xI s) : xI U := ⟨va_AOA.same hv h.1, va_Nw.same rfl hv h.2.1, va_Nw.same rfl hv h.2.2.1, va_Nw.same rfl hv h.2.2.2⟩
def cNPre (D : va_G) (tys : List (ClassId × FieldType)) (av : List Value) (w0 : va_W) (sz : Nat) : Array Value → State → Prop := va_Pc av (fun U => U.heap.size = sz ∧ va_P D vwCl w0 U.heap ∧ va_K D vwCl tys U ∧ va_D (fun _ => True) w0 ∧ xI U)
theorem cNPre_blind {D : va_G} {tys : List (ClassId × FieldType)} {av : List Value} {w0 : va_W} {sz : Nat} : FrameBlind (cNPre D tys av w0 sz) := fun a U g mk q => by
  obtain ⟨q0, q1, qP, qK, qD, qI⟩ := q
  exact ⟨q0, q1, qP, va_K.moved (u := U) (U := U.calling g mk a) (Vm.Alike.refl U.vm) qK, qD, xI.same (s := U) (U := U.calling g mk a) rfl qI⟩
def cZ {S : Type} (l : Launch) (y : MethodName) (wsC : List Cond) (rm : Room) (D : va_G) (tys : List (ClassId × FieldType)) (av : List Value) (w0 : va_W) (wf : S → va_W) (post : S → Prop) (mc ms : Nat) : Prop := ∀ sz : Nat, Met l y wsC rm (cNPre D tys av w0 sz) (va_Qv post (cAt D tys wf (va_A w0 sz)) (va_A w0 sz)) mc ms (va_A w0 sz)
theorem cZ_start {S : Type} {l : Launch} {y : MethodName} {wsC ws' : List Cond} {rm : Room} {D : va_G} {tys : List (ClassId × FieldType)} {av : List Value} {w0 : va_W} {wf : S → va_W} {post : S → Prop} {mc ms maxL : Nat} {cc : ByteArray} (own : String) (ho : y.cls = own) (hy : plainName y.cls = true) (hi : y.name = "<init>") (hw : wsC = Cond.code y cc maxL (none) :: ws') (hlen : (lg_sl av).length ≤ maxL)
    (body : ∀ κ : Kx, jl κ = l → Cx D κ cc own wsC tys → xI (js κ) → (jh κ).sig.returnType = none → (jh κ).name = "<init>" → jQ κ = MQ (jb κ) (va_Qv post (cAt D tys wf (jA κ)) (jA κ)) (ja κ) (js κ) mc ms (jA κ) → jR κ = rm → jn κ = maxL → J D κ 0 0 0 (lv_args 0 av) [] w0) : cZ l y wsC rm D tys av w0 wf post mc ms := by
  intro sz
  refine Met.ofW (cc := cc) (maxL := maxL) (ret := none) hy hw ?_
  intro p e s m args below meth c s₁ B hml hv
  obtain ⟨rfl, hsz, hP, hK, hD0, hI⟩ := hv
  subst hsz
  have hD := hD0.self (sz := s.heap.size)
  have hown : s.vm.findClass own = some m.cls := by rw [← ho]; exact findClass_of_methodNamed B.named
  have K := body (p, l, e, (headSpec wsC rm).room, s, m, av.toArray, below, meth, c, MQ below (va_Qv post (cAt D tys wf (va_A w0 s.heap.size)) (va_A w0 s.heap.size)) av.toArray s mc ms (va_A w0 s.heap.size), va_A w0 s.heap.size, maxL) rfl ⟨B.exec, B.bytes, hml, hown, atoms_spec (ws := wsC) B.pre, hK, fun q h => Or.inr h, B.notSynchronized⟩ hI B.returns (by rw [(name_of_methodNamed B.named B.method).1]; exact hi) rfl rfl rfl
  have hl := lv_entry av hlen
  rw [lg_entry_eq]
  generalize (lg_sl av ++ List.replicate (maxL - (lg_sl av).length) Slot.unset).toArray = ls at hl ⊢
  exact K s.heap [] ls hl hP hD va_S.rf
section JN
variable {S : Type} {D : va_G} {κ : Kx} {cc : ByteArray} {own : String} {Ts : List Cond} {tys : List (ClassId × FieldType)} {cells slots mc ms n index maxL ci : Nat} {lv : List (Nat × Value)} {st stk As : List Value} {ws wr : va_W} {wf : S → va_W} {y : MethodName} {bytes : ByteArray} {wsC ws' : List Cond} {rm : Room} {b : Nat} {K : String} {T : u_T} {N : Nat} {fs : List Value}
/-- Object() -/
theorem j_objInit (C : Cx D κ cc own Ts tys) (pc : Nat) {a : Nat} (hlink : (Cond.methodLink own index objectInit).before (ja κ) (js κ) = true) (hinst : (Cond.instanceMethod objectInit).before (ja κ) (js κ) = true) (hcode : (Cond.code objectInit ⟨#[0xb1]⟩ 1 none).before (ja κ) (js κ) = true) (hd : decode cc pc = .ok (.invokespecial index, 3)) (hR : 1 ≤ (jR κ).frames ∧ (st.map fun v => v.category).sum + 12 ≤ (jR κ).locals) (k : J D κ cells slots (pc + 3) lv st ws) : J D κ cells slots pc lv (.ref a :: st) ws := fun H locs ls h hP hD hS => by
  refine W.objInit C.x C.b C.o hlink hinst hcode rfl (h.1.trans C.n.symm) rfl hd hR.1 (by show 2 * 0 + _ + 12 ≤ _; have := hR.2; omega) ?_
  exact k H locs ls h hP hD hS
/-- new T -/
theorem j_new (C : Cx D κ cc own Ts tys) (pc : Nat) {ty0 : Nat → FieldType} (hL : ∀ w ∈ u_ws K T N, w.before (ja κ) (js κ) = true) (hty : ∀ k, k < N → parseFieldDescriptor (T k).2.2.1 = some (ty0 k)) (hcl : (Cond.classLink own index K).before (ja κ) (js κ) = true) (hinst : (Cond.instantiable K N).before (ja κ) (js κ) = true) (hini : (Cond.initialized K).before (ja κ) (js κ) = true) (hc : vwCl[ci]? = some (K, T, N)) (hfs : ∀ j, j < N → defaultValue (ty0 j) = vp_V fs j) (hf : cells + 1 ≤ (jR κ).cells ∧ slots + N ≤ (jR κ).slots) (hd : decode cc pc = .ok (.new index, 3)) (kk : ∀ q : Nat, J D κ (cells + 1) (slots + N) (pc + 3) lv (.ref q :: st) (ws ++ [(q, .inr (ci, fs))])) : J D κ cells slots pc lv st ws := fun H locs ls h hP hD hS =>
  va_new C.x C.b hL (fun _ h => h) ty0 hty C.o hcl hinst hini C.k hP hD hS C.a hc hfs hf.1 hf.2 hd (fun q H1 hP1 hD1 hS1 => kk q H1 locs ls h hP1 hD1 hS1)
theorem va_RA_uniq {s : State} {c1 c2 : ClassId} {ty : FieldType} (h1 : va_RA s c1 ty) (h2 : va_RA s c2 ty) : c1 = c2 := by
  cases ty with
  | object n =>
    obtain ⟨-, -, -, -, -, e1⟩ := h1
    obtain ⟨-, -, -, -, -, e2⟩ := h2
    exact Option.some.inj (e1.symm.trans e2)
  | _ => exact Option.some.inj (Eq.trans (Eq.symm h1) h2)
/-- new t[n]; its class is known -/
theorem j_newa (C : Cx D κ cc own Ts tys) (pc : Nat) {atype : ArrayType} {ty : FieldType} {cT : ClassId} (t0 : Nat) (ht : tys[t0]? = some (cT, ty)) (harr : (Cond.arrayClass (newarray.typeOf atype)).before (ja κ) (js κ) = true) (hty : newarray.typeOf atype = ty) {x : Int32} {N' : Nat} {a0 : vp_A} (ha : ∀ cA : ClassId, vp_cell cA a0 = arrV cA N' (fun _ => defaultValue ty)) (hn : ¬ x < 0) (hN : x.toNatClampNeg = N') (hb : N' * componentBytes ty ≤ 536870912) (hf : cells + 1 ≤ (jR κ).cells ∧ slots + N' ≤ (jR κ).slots) (hd : decode cc pc = .ok (.newarray atype, 2)) (kk : ∀ q : Nat, J D κ (cells + 1) (slots + N') (pc + 2) lv (.ref q :: st) (ws ++ [(q, .inl (cT, a0))])) : J D κ cells slots pc lv (.int x :: st) ws := fun H locs ls h hP hD hS =>
  va_newa C.x C.b harr hty C.k hP hD hS C.a ha hn hN hb hf.1 hf.2 hd (fun q cA H1 hK1 hP1 hD1 hS1 => by
    have e : cA = cT := va_RA_uniq (hK1.2 tys.length (cA, ty) (by rw [List.getElem?_append_right (Nat.le_refl _), Nat.sub_self]; rfl)).2 (C.k.2 t0 _ ht).2
    subst e
    exact kk q H1 locs ls h hP1 hD1 hS1)
/-- a constructor's call, with a part of the world -/
theorem j_ini {post : S → Prop} {w0 : va_W} (C : Cx D κ cc own Ts tys) (I : xI (js κ)) (pc : Nat) (hM : cZ (jl κ) y wsC rm D tys (.ref b :: As) w0 wf post mc ms) (hG : GoodIn Ts wsC) (hwc : wsC = Cond.code y bytes maxL (none) :: ws') (hrc : rm.cells = mc) (hrs : rm.slots = ms) (hini : (Cond.initialized y.cls).before (ja κ) (js κ) = true) (hl : (Cond.methodLink own index y).before (ja κ) (js κ) = true ∨ ∃ host, va_Nw (.methodLinkNest own index y host) (js κ)) (hin : (Cond.instanceMethod y).before (ja κ) (js κ) = true) (hy1 : y.name = "<init>") (hdd : y.cls ≠ "java/lang/invoke/MethodHandle" ∧ y.cls ≠ "java/lang/invoke/VarHandle" ∧ (parseMethodDescriptor y.desc).map (fun d => d.parameters.length) = some As.length) (hR : rm.frames + 1 ≤ (jR κ).frames ∧ 8 + (maxL + 11) + rm.locals ≤ (jR κ).locals) (isC isR : List Nat) (hC : isC.map (fun i => ws[i]?) = w0.map some) (hn : va_nd isC = true) (hRr : isR.map (fun i => ws[i]?) = wr.map some) (hnr : va_nd isR = true) (hdis : ∀ i ∈ isR, i ∉ isC) (hst : stk = As.reverse ++ .ref b :: st) (hcat : (st.map fun v => v.category).sum ≤ 8) (hf : cells + mc ≤ (jR κ).cells ∧ slots + ms ≤ (jR κ).slots) (hd : decode cc pc = .ok (.invokespecial index, 3)) (kk : ∀ (u : S), post u → J D κ (cells + mc) (slots + ms) (pc + 3) lv (st) (wr ++ wf u)) : J D κ cells slots pc lv stk ws := by
  intro H locs ls h hP hD hS
  have hF := va_free (wc := w0) hD hS C.a isC hC
  have hPc : va_P D vwCl w0 H := hP.sub isC (by
    have e := congrArg (fun l : List (Option (Nat × va_E)) => l.filterMap id) hC
    simpa [List.filterMap_map, Function.comp_def] using e)
  have hDc : va_D (jA κ) w0 := hD.sub isC hn hC
  subst hst
  have hp : PreS (js κ) H (cNPre D tys (.ref b :: As) w0 H.size) (.ref b :: As) := ⟨cNPre_blind, fun U hU hW => ⟨rfl, by rw [hU], by rw [hU]; exact hPc, va_K.moved hW.alike C.k, hDc.weaken (fun _ _ _ _ => trivial), xI.warm hW I⟩⟩
  have fin : ∀ (u : S) (t : State) (H1 : Heap) (locs1 : List Loc), t.heap = H1 → (js κ).vm.Alike t.vm → post u → cAt D tys wf (va_A w0 H.size) u t → H.size ≤ H1.size → (∀ q : Nat, q < H.size → ¬ va_A w0 H.size q → H1[q]? = H[q]?) → va_S (jA κ) (js κ).heap H1 locs1 → jW κ H1 locs1 (cells + mc) (slots + ms) (F0 (jm κ) (pc + 3) ls st) := fun u t H1 locs1 ht hvm hpu hB hz1 hk1 hS1 => by
    obtain ⟨hP1, hK1, hD1⟩ := hB
    rw [ht] at hP1
    obtain ⟨hP2, hD2⟩ := va_join (wr := wr) (w1 := wf u) hP hD isC isR hC hRr hnr hdis hk1 hF hP1 hD1
    exact kk u hpu H1 locs1 ls h hP2 hD2 hS1
  rcases hl with hl | ⟨host, hl⟩
  · exact va_callv (va_runI (As := As) (rest := st) ⟨C.x, C.b, C.n, C.o, C.t⟩ (hM H.size) (cwI As.length C.t hG hwc hrc hrs hini hl hin hy1 hdd hR) hp rfl rfl h.1 rfl (lv_room hcat) hd hf) hS (fun q _ h => hF q h) hF fin
  · exact va_callv (va_runIN (As := As) (rest := st) ⟨C.x, C.b, C.n, C.o, C.t⟩ (hM H.size) ⟨va_cnB As.length C.t hG hwc hrc hrs hl hini hdd hR, hy1, hin⟩ hp rfl rfl h.1 rfl (lv_room hcat) hd hf) hS (fun q _ h => hF q h) hF fin
/-- new long[48][k] -/
theorem j_mna (C : Cx D κ cc own Ts tys) (I : xI (js κ)) (pc : Nat) {cL cG : ClassId} (tL tG : Nat) (htL : tys[tL]? = some (cL, .long)) (htG : tys[tG]? = some (cG, .array .long)) (hcl : (Cond.classLink own index "[[J").before (ja κ) (js κ) = true) (harr : (Cond.arrayClass .long).before (ja κ) (js κ) = true) (hf : cells + (1 + 48) ≤ (jR κ).cells ∧ slots + (48 + 48 * 17) ≤ (jR κ).slots) (hd : decode cc pc = .ok (.multianewarray index 2, 4)) (kk : ∀ (q : Nat) (r : Nat → Nat), J D κ (cells + 1 + 48) (slots + 48 + 48 * 17) (pc + 4) lv (.ref q :: st) ((ws ++ [(q, .inl (cG, 48, .inr (.inr (.inr (.inr (fun i => if i < 48 then some (r i) else none))))))]) ++ (List.range 48).map (fun i => (r i, .inl (cL, 17, .inr (.inl (fun _ => 0))))))) : J D κ cells slots pc lv (.int (nI 17) :: .int (nI 48) :: st) ws := fun H locs ls h hP hD hS => by
  have hcy : (js κ).vm.findClass (FieldType.array .long).toString = some cL := (C.k.2 tL _ htL).2
  refine va_mna (X := ws) (L := []) (f := fun a => (.inl (cL, 17, .inr (.inl (fun _ => 0))))) (ty := .long) (z := (17, .inr (.inl (fun _ => 0)))) (N' := 48) (K' := 17) C.x C.b C.o hcl I.1 harr hcy C.k (by show va_P _ _ (ws ++ []) _; rw [List.append_nil]; exact hP) (by show va_D _ (ws ++ []); rw [List.append_nil]; exact hD) hS C.a (by decide) (by decide) (by decide) (by decide) (by decide) (by decide) (by decide) rfl rfl hf.1 hf.2 (fun c0 => ?_) hd (fun q r cA H1 hinj hni hK1 hP1 hD1 hS1 => ?_)
  · show ({ cls := c0, slots := Array.replicate 17 _, vm := .none } : Cell) = _
    rw [arrV_new, vp_cell_l]
    rfl
  · have e : cA = cG := va_RA_uniq (hK1.2 tys.length (cA, .array .long) (by rw [List.getElem?_append_right (Nat.le_refl _), Nat.sub_self]; rfl)).2 (C.k.2 tG _ htG).2
    subst e
    have e2 : va_pl ([] ++ (List.range 48).map r) (vr_up (fun a => (.inl (cL, 17, .inr (.inl (fun _ => 0))) : va_E)) ((List.range 48).map r) (.inl (cL, (17, .inr (.inl (fun _ => 0)))))) = (List.range 48).map (fun i => (r i, .inl (cL, 17, .inr (.inl (fun _ => 0))))) := by
      unfold va_pl
      rw [List.nil_append, List.map_map]
      apply List.map_congr_left
      intro i hi
      show (r i, vr_up _ _ _ (r i)) = _
      rw [vr_up_in (List.mem_map.mpr ⟨i, hi, rfl⟩)]
    rw [e2] at hP1 hD1
    exact kk q r H1 locs ls h hP1 hD1 hS1
end JN
