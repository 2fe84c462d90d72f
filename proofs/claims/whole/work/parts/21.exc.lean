/-! exceptions over J: contracts that return or throw, throws, and calls of what throws -/
def xEs : List String := ["java/lang/IllegalArgumentException", "java/lang/UnsupportedOperationException", "java/lang/IndexOutOfBoundsException", "java/lang/IllegalStateException", "java/util/NoSuchElementException"]
abbrev xNm : List String := ["java/lang/RuntimeException", "java/lang/Exception"]
/-- the tables' words of throws that no method's list holds -/
def xW (U : State) : Prop := va_Nw (.declares (Bundle.init0 "java/lang/RuntimeException")) U ∧ va_Nw (.declares (Bundle.init0 "java/lang/Exception")) U ∧ va_Nw (.declares (Bundle.init0 "java/lang/Throwable")) U ∧ ∀ E, E ∈ xEs → va_Nw (.castable E E) U
theorem xW.warm {s U : State} (hW : s.WarmedH U.vm) (h : xW s) : xW U := ⟨va_Nw.warmD hW h.1, va_Nw.warmD hW h.2.1, va_Nw.warmD hW h.2.2.1, fun E hE => va_Nw.warmC hW (h.2.2.2 E hE)⟩
theorem xW.same {s U : State} (hv : s.vm = U.vm) (h : xW s) : xW U := ⟨va_Nw.same rfl hv h.1, va_Nw.same rfl hv h.2.1, va_Nw.same rfl hv h.2.2.1, fun E hE => va_Nw.same rfl hv (h.2.2.2 E hE)⟩
/-- Throwable's two statics lie outside A -/
def xS (A : Nat → Prop) (U : State) (H : Heap) : Prop := vx_Zq Bundle.tN "UNASSIGNED_STACK" Bundle.steD A U H ∧ vx_Zq Bundle.tN "SUPPRESSED_SENTINEL" Bundle.listD A U H
theorem xS.moved {A : Nat → Prop} {u U : State} {H : Heap} (hv : u.vm.Alike U.vm) (h : xS A u H) : xS A U H := ⟨vx_Zq.moved hv h.1, vx_Zq.moved hv h.2⟩
theorem xS.kept {A : Nat → Prop} {U : State} {H H1 : Heap} (h : xS A U H) (hq : ∀ a : Nat, a < H.size → ¬ A a → H1[a]? = H[a]?) : xS A U H1 := ⟨h.1.kept hq, h.2.kept hq⟩
theorem xS.narrow {A B : Nat → Prop} {U : State} {H : Heap} (h : xS A U H) (hAB : ∀ q, B q → A q) : xS B U H := ⟨h.1.narrow hAB, h.2.narrow hAB⟩
/-- of the five exceptions none is another -/
def xN5 (U : State) : Prop := ∀ E, E ∈ xEs → ∀ F, F ∈ xEs → E ≠ F → va_Nc E F U
theorem xN5.moved {u U : State} (hv : u.vm.Alike U.vm) (h : xN5 u) : xN5 U := fun E hE F hF hn => va_Nc.moved hv (h E hE F hF hn)
def cXPre (D : va_G) (tys : List (ClassId × FieldType)) (av : List Value) (w0 : va_W) (sz : Nat) : Array Value → State → Prop := va_Pc av (fun U => U.heap.size = sz ∧ va_P D vwCl w0 U.heap ∧ va_K D vwCl tys U ∧ va_D (fun _ => True) w0 ∧ xW U ∧ xS (va_A w0 sz) U U.heap)
def cYPre (D : va_G) (tys : List (ClassId × FieldType)) (av : List Value) (w0 : va_W) (sz : Nat) : Array Value → State → Prop := va_Pc av (fun U => U.heap.size = sz ∧ va_P D vwCl w0 U.heap ∧ va_K D vwCl tys U ∧ va_D (fun _ => True) w0 ∧ xW U ∧ xS (va_A w0 sz) U U.heap ∧ xN5 U)
theorem cXPre_blind {D : va_G} {tys : List (ClassId × FieldType)} {av : List Value} {w0 : va_W} {sz : Nat} : FrameBlind (cXPre D tys av w0 sz) := fun a U g mk q => by
  obtain ⟨q0, q1, qP, qK, qD, qW, qS⟩ := q
  exact ⟨q0, q1, qP, va_K.moved (u := U) (U := U.calling g mk a) (Vm.Alike.refl U.vm) qK, qD, xW.same (s := U) (U := U.calling g mk a) rfl qW, xS.moved (u := U) (U := U.calling g mk a) (Vm.Alike.refl U.vm) qS⟩
theorem cYPre_blind {D : va_G} {tys : List (ClassId × FieldType)} {av : List Value} {w0 : va_W} {sz : Nat} : FrameBlind (cYPre D tys av w0 sz) := fun a U g mk q => by
  obtain ⟨q0, q1, qP, qK, qD, qW, qS, qN⟩ := q
  exact ⟨q0, q1, qP, va_K.moved (u := U) (U := U.calling g mk a) (Vm.Alike.refl U.vm) qK, qD, xW.same (s := U) (U := U.calling g mk a) rfl qW, xS.moved (u := U) (U := U.calling g mk a) (Vm.Alike.refl U.vm) qS, xN5.moved (u := U) (U := U.calling g mk a) (Vm.Alike.refl U.vm) qN⟩
def xXC {SX : Type} (D : va_G) (tys : List (ClassId × FieldType)) (wfx : SX → va_W) (px : String → SX → Prop) (A : Nat → Prop) : String → State → State → Prop := vx_X (S := SX) (fun _ => True) (fun E u t => px E u ∧ cAt D tys wfx A u t) A
def cXI {S SX : Type} (l : Launch) (y : MethodName) (wsC : List Cond) (rm : Room) (D : va_G) (tys : List (ClassId × FieldType)) (av : List Value) (w0 : va_W) (wf : S → va_W) (post : Int32 → S → Prop) (wfx : SX → va_W) (px : String → SX → Prop) (mc ms : Nat) : Prop := ∀ sz : Nat, vx_Met l y wsC rm (cXPre D tys av w0 sz) (va_Qi post (cAt D tys wf (va_A w0 sz)) (va_A w0 sz)) (xXC D tys wfx px (va_A w0 sz)) mc ms (va_A w0 sz)
def cXL {S SX : Type} (l : Launch) (y : MethodName) (wsC : List Cond) (rm : Room) (D : va_G) (tys : List (ClassId × FieldType)) (av : List Value) (w0 : va_W) (wf : S → va_W) (post : Int64 → S → Prop) (wfx : SX → va_W) (px : String → SX → Prop) (mc ms : Nat) : Prop := ∀ sz : Nat, vx_Met l y wsC rm (cXPre D tys av w0 sz) (va_Ql post (cAt D tys wf (va_A w0 sz)) (va_A w0 sz)) (xXC D tys wfx px (va_A w0 sz)) mc ms (va_A w0 sz)
def cXV {S SX : Type} (l : Launch) (y : MethodName) (wsC : List Cond) (rm : Room) (D : va_G) (tys : List (ClassId × FieldType)) (av : List Value) (w0 : va_W) (wf : S → va_W) (post : S → Prop) (wfx : SX → va_W) (px : String → SX → Prop) (mc ms : Nat) : Prop := ∀ sz : Nat, vx_Met l y wsC rm (cXPre D tys av w0 sz) (va_Qv post (cAt D tys wf (va_A w0 sz)) (va_A w0 sz)) (xXC D tys wfx px (va_A w0 sz)) mc ms (va_A w0 sz)
def cYI {S : Type} (l : Launch) (y : MethodName) (wsC : List Cond) (rm : Room) (D : va_G) (tys : List (ClassId × FieldType)) (av : List Value) (w0 : va_W) (wf : S → va_W) (post : Int32 → S → Prop) (mc ms : Nat) : Prop := ∀ sz : Nat, vx_Met l y wsC rm (cYPre D tys av w0 sz) (va_Qi post (cAt D tys wf (va_A w0 sz)) (va_A w0 sz)) (xXC D tys (fun _ : Unit => w0) (fun _ _ => False) (va_A w0 sz)) mc ms (va_A w0 sz)
/-- what stands beside Cx in a method that throws -/
def CX (D : va_G) (κ : Kx) (cc : ByteArray) (own : String) (Ts : List Cond) (tys : List (ClassId × FieldType)) : Prop := Cx D κ cc own Ts tys ∧ (∀ x ∈ (jc κ).exceptionTable.toList, False) ∧ xW (js κ) ∧ xS (jA κ) (js κ) (js κ).heap ∧ (jl κ).stackTraces = false
/-- .. and in one that catches, with the table hh -/
def CY (D : va_G) (κ : Kx) (cc : ByteArray) (own : String) (Ts : List Cond) (tys : List (ClassId × FieldType)) (hh : List (Nat × Nat × Nat × Nat)) : Prop := Cx D κ cc own Ts tys ∧ (jc κ).exceptionTable.toList = tableOf hh ∧ xW (js κ) ∧ xS (jA κ) (js κ) (js κ).heap ∧ xN5 (js κ)
theorem cXI_start {S SX : Type} {l : Launch} {y : MethodName} {wsC ws' : List Cond} {rm : Room} {D : va_G} {tys : List (ClassId × FieldType)} {av : List Value} {w0 : va_W} {wf : S → va_W} {post : Int32 → S → Prop} {wfx : SX → va_W} {px : String → SX → Prop} {mc ms maxL : Nat} {cc : ByteArray} {rt : FieldType} (own : String) (ho : y.cls = own) (hy : plainName y.cls = true) (hw : wsC = Cond.code y cc maxL (some rt) :: ws') (hlen : (lg_sl av).length ≤ maxL) (hst : l.stackTraces = false)
    (body : ∀ κ : Kx, jl κ = l → CX D κ cc own wsC tys → (jh κ).sig.returnType = some rt → jQ κ = vx_MQ (jb κ) (va_Qi post (cAt D tys wf (jA κ)) (jA κ)) (xXC D tys wfx px (jA κ)) (ja κ) (js κ) mc ms (jA κ) → jR κ = rm → jn κ = maxL → J D κ 0 0 0 (lv_args 0 av) [] w0) : cXI l y wsC rm D tys av w0 wf post wfx px mc ms := by
  intro sz
  refine vx_ofW (cc := cc) (maxL := maxL) (ret := some rt) hy hw ?_
  intro p e s m args below meth c s₁ B hml ht hv
  obtain ⟨rfl, hsz, hP, hK, hD0, hxw, hxs⟩ := hv
  subst hsz
  have hD := hD0.self (sz := s.heap.size)
  have hown : s.vm.findClass own = some m.cls := by rw [← ho]; exact findClass_of_methodNamed B.named
  have K := body (p, l, e, (headSpec wsC rm).room, s, m, av.toArray, below, meth, c, vx_MQ below (va_Qi post (cAt D tys wf (va_A w0 s.heap.size)) (va_A w0 s.heap.size)) (xXC D tys wfx px (va_A w0 s.heap.size)) av.toArray s mc ms (va_A w0 s.heap.size), va_A w0 s.heap.size, maxL) rfl ⟨⟨B.exec, B.bytes, hml, hown, atoms_spec (ws := wsC) B.pre, hK, fun q h => Or.inr h, B.notSynchronized⟩, ht, hxw, hxs, hst⟩ B.returns rfl rfl rfl
  have hl := lv_entry av hlen
  rw [lg_entry_eq]
  generalize (lg_sl av ++ List.replicate (maxL - (lg_sl av).length) Slot.unset).toArray = ls at hl ⊢
  exact K s.heap [] ls hl hP hD va_S.rf
theorem cXL_start {S SX : Type} {l : Launch} {y : MethodName} {wsC ws' : List Cond} {rm : Room} {D : va_G} {tys : List (ClassId × FieldType)} {av : List Value} {w0 : va_W} {wf : S → va_W} {post : Int64 → S → Prop} {wfx : SX → va_W} {px : String → SX → Prop} {mc ms maxL : Nat} {cc : ByteArray} (own : String) (ho : y.cls = own) (hy : plainName y.cls = true) (hw : wsC = Cond.code y cc maxL (some .long) :: ws') (hlen : (lg_sl av).length ≤ maxL) (hst : l.stackTraces = false)
    (body : ∀ κ : Kx, jl κ = l → CX D κ cc own wsC tys → (jh κ).sig.returnType = some .long → jQ κ = vx_MQ (jb κ) (va_Ql post (cAt D tys wf (jA κ)) (jA κ)) (xXC D tys wfx px (jA κ)) (ja κ) (js κ) mc ms (jA κ) → jR κ = rm → jn κ = maxL → J D κ 0 0 0 (lv_args 0 av) [] w0) : cXL l y wsC rm D tys av w0 wf post wfx px mc ms := by
  intro sz
  refine vx_ofW (cc := cc) (maxL := maxL) (ret := some .long) hy hw ?_
  intro p e s m args below meth c s₁ B hml ht hv
  obtain ⟨rfl, hsz, hP, hK, hD0, hxw, hxs⟩ := hv
  subst hsz
  have hD := hD0.self (sz := s.heap.size)
  have hown : s.vm.findClass own = some m.cls := by rw [← ho]; exact findClass_of_methodNamed B.named
  have K := body (p, l, e, (headSpec wsC rm).room, s, m, av.toArray, below, meth, c, vx_MQ below (va_Ql post (cAt D tys wf (va_A w0 s.heap.size)) (va_A w0 s.heap.size)) (xXC D tys wfx px (va_A w0 s.heap.size)) av.toArray s mc ms (va_A w0 s.heap.size), va_A w0 s.heap.size, maxL) rfl ⟨⟨B.exec, B.bytes, hml, hown, atoms_spec (ws := wsC) B.pre, hK, fun q h => Or.inr h, B.notSynchronized⟩, ht, hxw, hxs, hst⟩ B.returns rfl rfl rfl
  have hl := lv_entry av hlen
  rw [lg_entry_eq]
  generalize (lg_sl av ++ List.replicate (maxL - (lg_sl av).length) Slot.unset).toArray = ls at hl ⊢
  exact K s.heap [] ls hl hP hD va_S.rf
theorem cXV_start {S SX : Type} {l : Launch} {y : MethodName} {wsC ws' : List Cond} {rm : Room} {D : va_G} {tys : List (ClassId × FieldType)} {av : List Value} {w0 : va_W} {wf : S → va_W} {post : S → Prop} {wfx : SX → va_W} {px : String → SX → Prop} {mc ms maxL : Nat} {cc : ByteArray} (own : String) (ho : y.cls = own) (hy : plainName y.cls = true) (hw : wsC = Cond.code y cc maxL (none) :: ws') (hlen : (lg_sl av).length ≤ maxL) (hst : l.stackTraces = false)
    (body : ∀ κ : Kx, jl κ = l → CX D κ cc own wsC tys → (jh κ).sig.returnType = none → jQ κ = vx_MQ (jb κ) (va_Qv post (cAt D tys wf (jA κ)) (jA κ)) (xXC D tys wfx px (jA κ)) (ja κ) (js κ) mc ms (jA κ) → jR κ = rm → jn κ = maxL → J D κ 0 0 0 (lv_args 0 av) [] w0) : cXV l y wsC rm D tys av w0 wf post wfx px mc ms := by
  intro sz
  refine vx_ofW (cc := cc) (maxL := maxL) (ret := none) hy hw ?_
  intro p e s m args below meth c s₁ B hml ht hv
  obtain ⟨rfl, hsz, hP, hK, hD0, hxw, hxs⟩ := hv
  subst hsz
  have hD := hD0.self (sz := s.heap.size)
  have hown : s.vm.findClass own = some m.cls := by rw [← ho]; exact findClass_of_methodNamed B.named
  have K := body (p, l, e, (headSpec wsC rm).room, s, m, av.toArray, below, meth, c, vx_MQ below (va_Qv post (cAt D tys wf (va_A w0 s.heap.size)) (va_A w0 s.heap.size)) (xXC D tys wfx px (va_A w0 s.heap.size)) av.toArray s mc ms (va_A w0 s.heap.size), va_A w0 s.heap.size, maxL) rfl ⟨⟨B.exec, B.bytes, hml, hown, atoms_spec (ws := wsC) B.pre, hK, fun q h => Or.inr h, B.notSynchronized⟩, ht, hxw, hxs, hst⟩ B.returns rfl rfl rfl
  have hl := lv_entry av hlen
  rw [lg_entry_eq]
  generalize (lg_sl av ++ List.replicate (maxL - (lg_sl av).length) Slot.unset).toArray = ls at hl ⊢
  exact K s.heap [] ls hl hP hD va_S.rf
theorem cYI_start {S : Type} {l : Launch} {y : MethodName} {wsC ws' : List Cond} {rm : Room} {D : va_G} {tys : List (ClassId × FieldType)} {av : List Value} {w0 : va_W} {wf : S → va_W} {post : Int32 → S → Prop} {mc ms maxL : Nat} {cc : ByteArray} {rt : FieldType} {hh : List (Nat × Nat × Nat × Nat)} (own : String) (ho : y.cls = own) (hy : plainName y.cls = true) (hw : wsC = Cond.codeWith y cc maxL (some rt) hh :: ws') (hlen : (lg_sl av).length ≤ maxL)
    (body : ∀ κ : Kx, jl κ = l → CY D κ cc own wsC tys hh → (jh κ).sig.returnType = some rt → jQ κ = vx_MQ (jb κ) (va_Qi post (cAt D tys wf (jA κ)) (jA κ)) (xXC D tys (fun _ : Unit => w0) (fun _ _ => False) (jA κ)) (ja κ) (js κ) mc ms (jA κ) → jR κ = rm → jn κ = maxL → J D κ 0 0 0 (lv_args 0 av) [] w0) : cYI l y wsC rm D tys av w0 wf post mc ms := by
  intro sz
  refine vx_ofWH (cc := cc) (maxL := maxL) (ret := some rt) (hh := hh) hy hw ?_
  intro p e s m args below meth c s₁ B hml hv
  obtain ⟨rfl, hsz, hP, hK, hD0, hxw, hxs, hxn⟩ := hv
  subst hsz
  have hD := hD0.self (sz := s.heap.size)
  have hown : s.vm.findClass own = some m.cls := by rw [← ho]; exact findClass_of_methodNamed B.named
  have hts := atoms_spec (ws := wsC) B.pre
  have htab : c.exceptionTable.toList = tableOf hh := vx_table (x := y) B (hts _ (by rw [hw]; exact List.mem_cons_self))
  have K := body (p, l, e, (headSpec wsC rm).room, s, m, av.toArray, below, meth, c, vx_MQ below (va_Qi post (cAt D tys wf (va_A w0 s.heap.size)) (va_A w0 s.heap.size)) (xXC D tys (fun _ : Unit => w0) (fun _ _ => False) (va_A w0 s.heap.size)) av.toArray s mc ms (va_A w0 s.heap.size), va_A w0 s.heap.size, maxL) rfl ⟨⟨B.exec, B.bytes, hml, hown, hts, hK, fun q h => Or.inr h, B.notSynchronized⟩, htab, hxw, hxs, hxn⟩ B.returns rfl rfl rfl
  have hl := lv_entry av hlen
  rw [lg_entry_eq]
  generalize (lg_sl av ++ List.replicate (maxL - (lg_sl av).length) Slot.unset).toArray = ls at hl ⊢
  exact K s.heap [] ls hl hP hD va_S.rf
section JXE
variable {S SX : Type} {D : va_G} {κ : Kx} {cc : ByteArray} {own : String} {Ts : List Cond} {tys : List (ClassId × FieldType)} {cells slots mc ms pc : Nat} {lv : List (Nat × Value)} {ws : va_W} {wf : S → va_W} {XC : String → State → State → Prop}
theorem j_xireti {post : Int32 → S → Prop} {x : Int32} {rt : FieldType} (C : Cx D κ cc own Ts tys) (hr : (jh κ).sig.returnType = some rt) (E : jQ κ = vx_MQ (jb κ) (va_Qi post (cAt D tys wf (jA κ)) (jA κ)) XC (ja κ) (js κ) mc ms (jA κ)) (hc : cells ≤ mc) (hs : slots ≤ ms) (hn : narrow rt (.int x) = .int x) (u : S) (hp : post x u) (hw : ws = wf u) (hd : decode cc pc = .ok (.ireturn, 1)) : J D κ cells slots pc lv [.int x] ws := by
  intro H locs ls h hP hD hS
  refine W.widen hc hs ?_
  rw [E]
  subst hw
  exact vx_ret (W.zret (v := x) C.x C.b hr hn (fun t ht hW => ⟨⟨x, u, rfl, hp, by rw [ht]; exact hP, va_K.moved hW.alike C.k, hD⟩, hS.F ht⟩) hS.2.2 hd C.l)
theorem j_xlreti {post : Int64 → S → Prop} {x : Int64} (C : Cx D κ cc own Ts tys) (hr : (jh κ).sig.returnType = some .long) (E : jQ κ = vx_MQ (jb κ) (va_Ql post (cAt D tys wf (jA κ)) (jA κ)) XC (ja κ) (js κ) mc ms (jA κ)) (hc : cells ≤ mc) (hs : slots ≤ ms) (u : S) (hp : post x u) (hw : ws = wf u) (hd : decode cc pc = .ok (.lreturn, 1)) : J D κ cells slots pc lv [.long x] ws := by
  intro H locs ls h hP hD hS
  refine W.widen hc hs ?_
  rw [E]
  subst hw
  exact vx_ret (W.lret (v := x) C.x C.b hr (fun t ht hW => ⟨⟨x, u, rfl, hp, by rw [ht]; exact hP, va_K.moved hW.alike C.k, hD⟩, hS.F ht⟩) hS.2.2 hd C.l)
theorem j_xvreti {post : S → Prop} (C : Cx D κ cc own Ts tys) (hr : (jh κ).sig.returnType = none) (E : jQ κ = vx_MQ (jb κ) (va_Qv post (cAt D tys wf (jA κ)) (jA κ)) XC (ja κ) (js κ) mc ms (jA κ)) (hc : cells ≤ mc) (hs : slots ≤ ms) (u : S) (hp : post u) (hw : ws = wf u) (hd : decode cc pc = .ok (.return_, 1)) : J D κ cells slots pc lv [] ws := by
  intro H locs ls h hP hD hS
  refine W.widen hc hs ?_
  rw [E]
  subst hw
  exact vx_ret (W.vret C.x C.b hr (fun t ht hW => ⟨⟨u, rfl, hp, by rw [ht]; exact hP, va_K.moved hW.alike C.k, hD⟩, hS.F ht⟩) hS.2.2 hd C.l)
theorem xS.to {A B : Nat → Prop} {s U : State} {H : Heap} {locs : List Loc} (h : xS A s s.heap) (hS : va_S A s.heap H locs) (hF : ∀ q, B q → A q) (hU : U.heap = H) (hW : s.WarmedH U.vm) : xS B U U.heap := by
  rw [hU]
  exact xS.moved hW.alike ((h.kept hS.2.1).narrow hF)
set_option maxHeartbeats 1000000 in
/-- 'throw new E()' -/
theorem j_throw0 {Qc : Array Value → State → Outcome → State → Prop} {wfx : SX → va_W} {px : String → SX → Prop} {st : List Value} (X : CX D κ cc own Ts tys) (pc : Nat) (E : jQ κ = vx_MQ (jb κ) Qc (xXC D tys wfx px (jA κ)) (ja κ) (js κ) mc ms (jA κ)) {ik ic : Nat} {cls : String} (hin : cls ∈ xEs) (hcls : Bundle.fit cls = true)
    (hk : (Cond.classLink own ik cls).before (ja κ) (js κ) = true) (hini : (Cond.initialized cls).before (ja κ) (js κ) = true) (hat : ∀ w ∈ (vx_at0 own ic cls xNm).filter goodWord, w ∈ Ts)
    (hng : (vx_at0 own ic cls xNm).filter (fun w => !goodWord w) = [.declares (Bundle.init0 "java/lang/RuntimeException"), .declares (Bundle.init0 "java/lang/Exception"), .declares (Bundle.init0 "java/lang/Throwable"), .castable cls cls])
    (hgood : ∀ w ∈ Cond.classLink own ik cls :: Cond.initialized cls :: vx_at0 own ic cls xNm, vx_ot w = true)
    (d0 : decode cc pc = .ok (.new ik, 3)) (d3 : decode cc (pc + 3) = .ok (.dup, 1)) (d4 : decode cc (pc + 4) = .ok (.invokespecial ic, 3)) (d7 : decode cc (pc + 7) = .ok (.athrow, 1))
    (hR : 5 < (jR κ).frames ∧ (st.map fun v => v.category).sum + 81 ≤ (jR κ).locals) (hf : cells + 1 ≤ (jR κ).cells ∧ slots + 6 ≤ (jR κ).slots) (hc : cells + 1 ≤ mc) (hs : slots + 6 ≤ ms) (u : SX) (hp : px cls u) (hw : ws = wfx u) : J D κ cells slots pc lv st ws := by
  intro H locs ls h hP hD hS
  obtain ⟨C, hno, hxw, hxs, hst⟩ := X
  have hA : ∀ w ∈ vx_at0 own ic cls xNm, w.before (ja κ) (js κ) = true := vx_hat (B := [.declares (Bundle.init0 "java/lang/RuntimeException"), .declares (Bundle.init0 "java/lang/Exception"), .declares (Bundle.init0 "java/lang/Throwable"), .castable cls cls]) (fun w hw => C.t w (hat w hw)) (fun w hw => by rw [hng] at hw; exact hw)
    (vx_c (va_Nw.use rfl hxw.1) (vx_c (va_Nw.use rfl hxw.2.1) (vx_c (va_Nw.use rfl hxw.2.2.1) (vx_c (va_Nw.use rfl (hxw.2.2.2 cls hin)) vx_n))))
  show W _ _ _ _ _ _ _ _ _ _ _ _ _ _ _ _
  rw [E]
  subst hw
  refine vx_throw0 C.x C.b hst C.o hcls (by decide) hk hini hA hgood hxs.1 hxs.2 hS (h.1.trans C.n.symm) d0 d3 d4 d7 (fun x hx => (hno x hx).elim) hR.1 hR.2 hf.1 hf.2 C.l (fun t hvm hz hkp => ?_) hS.2.2 hc hs
  refine ⟨u, trivial, ⟨hp, hP.kept (fun k q hk => hkp q.1 (hP k q hk).lt), va_K.moved hvm C.k, hD⟩, Nat.le_trans hS.1 hz, fun q h1 h2 => ?_⟩
  rw [hkp q (Nat.lt_of_lt_of_le h1 hS.1)]
  exact hS.2.1 q h1 h2
end JXE
section JXC
variable {S SX SY : Type} {D : va_G} {κ : Kx} {cc : ByteArray} {own : String} {Ts : List Cond} {tys : List (ClassId × FieldType)} {cells slots mc ms mcO msO n index maxL ci : Nat} {lv : List (Nat × Value)} {st stk As : List Value} {ws wr : va_W} {wf : S → va_W} {wfx : SX → va_W} {px : String → SX → Prop} {y : MethodName} {bytes : ByteArray} {wsC ws' : List Cond} {rm : Room} {b : Nat} {K : String} {T : u_T} {N : Nat} {fs : List Value}
/-- a call of what may throw, of one's own world: what is thrown goes on -/
theorem j_xcallI {rt : FieldType} {post : Int32 → S → Prop} {Qc : Array Value → State → Outcome → State → Prop} {wfy : SY → va_W} {py : String → SY → Prop} (X : CX D κ cc own Ts tys) (pc : Nat) (hM : cXI (jl κ) y wsC rm D tys (.ref b :: As) ws wf post wfx px mc ms) (hG : GoodIn Ts (wsV own index K y wsC)) (hwc : wsC = Cond.code y bytes maxL (some rt) :: ws') (hrc : rm.cells = mc) (hrs : rm.slots = ms) (hdd : y.cls = K ∧ y.cls ≠ "java/lang/invoke/MethodHandle" ∧ y.cls ≠ "java/lang/invoke/VarHandle" ∧ (parseMethodDescriptor y.desc).map (fun d => d.parameters.length) = some As.length) (hR : rm.frames + 1 ≤ (jR κ).frames ∧ 8 + (maxL + 11) + rm.locals ≤ (jR κ).locals) (hc : vwCl[ci]? = some (K, T, N)) (q0 : Nat) (he : ws[q0]? = some (b, .inr (ci, fs))) (hst : stk = As.reverse ++ .ref b :: st) (hcat : (st.map fun v => v.category).sum ≤ 8) (hf : cells + mc ≤ (jR κ).cells ∧ slots + ms ≤ (jR κ).slots) (hd : decode cc pc = .ok (.invokevirtual index, 3))
    (E : jQ κ = vx_MQ (jb κ) Qc (xXC D tys wfy py (jA κ)) (ja κ) (js κ) mcO msO (jA κ)) (h9 : cells + mc ≤ mcO ∧ slots + ms ≤ msO) (hx : ∀ E u, px E u → ∃ u', py E u' ∧ wfx u = wfy u') (kk : ∀ (r : Int32) (u : S), post r u → J D κ (cells + mc) (slots + ms) (pc + 3) lv (.int r :: st) (wf u)) : J D κ cells slots pc lv stk ws := by
  intro H locs ls h hP hD hS
  obtain ⟨C, hno, hxw, hxs, hstt⟩ := X
  have hF : ∀ q, va_A ws H.size q → jA κ q := fun q hq => by
    rcases hq with ⟨k, e, hq⟩ | hq
    · exact hD.2 k (q, e) hq
    · exact C.a q (Nat.le_trans hS.1 hq)
  subst hst
  refine vx_calli (vx_runV (As := As) (rest := st) ⟨C.x, C.b, C.n, C.o, C.t⟩ (hM H.size) (cwV As.length C.t hG hwc hrc hrs hdd hR) ⟨cXPre_blind, va_recv C.k hP hc he, fun U hU hW => ⟨rfl, by rw [hU], by rw [hU]; exact hP, va_K.moved hW.alike C.k, hD.weaken (fun _ _ _ _ => trivial), xW.warm hW hxw, xS.to hxs hS hF hU hW⟩⟩ rfl rfl h.1 rfl (lv_room hcat) hd hf) hS (fun q _ h => hF q h) hF (fun q _ h => hF q h) (fun E9 ce q9 u t H1 locs1 ht hvm _ hB hz1 hk1 hS1 hce hcv hcl => ?_) (fun r u t H1 locs1 ht hvm hp hB hz1 hk1 hS1 => ?_)
  · obtain ⟨hp9, hP1, hK1, hD1⟩ := hB
    obtain ⟨u', hp', hw'⟩ := hx E9 u hp9
    rw [ht] at hP1
    rw [E]
    exact vx_out (fun x hx => (hno x hx).elim) C.l hce hcv hcl (fun t' ht' hvm' => ⟨u', trivial, ⟨hp', by rw [ht', ← hw']; exact hP1, va_K.moved hvm' C.k, by rw [← hw']; exact hD1.weaken (fun k q _ hq => hF q.1 hq)⟩, hS1.F ht'⟩) hS1.2.2 h9.1 h9.2
  · obtain ⟨hP1, hK1, hD1⟩ := hB
    rw [ht] at hP1
    exact kk r u hp H1 locs1 ls h hP1 (hD1.weaken (fun k q _ hq => hF q.1 hq)) hS1
/-- a call of what may throw, of one's own world: what is thrown goes on -/
theorem j_xcallL {post : Int64 → S → Prop} {Qc : Array Value → State → Outcome → State → Prop} {wfy : SY → va_W} {py : String → SY → Prop} (X : CX D κ cc own Ts tys) (pc : Nat) (hM : cXL (jl κ) y wsC rm D tys (.ref b :: As) ws wf post wfx px mc ms) (hG : GoodIn Ts (wsV own index K y wsC)) (hwc : wsC = Cond.code y bytes maxL (some .long) :: ws') (hrc : rm.cells = mc) (hrs : rm.slots = ms) (hdd : y.cls = K ∧ y.cls ≠ "java/lang/invoke/MethodHandle" ∧ y.cls ≠ "java/lang/invoke/VarHandle" ∧ (parseMethodDescriptor y.desc).map (fun d => d.parameters.length) = some As.length) (hR : rm.frames + 1 ≤ (jR κ).frames ∧ 8 + (maxL + 11) + rm.locals ≤ (jR κ).locals) (hc : vwCl[ci]? = some (K, T, N)) (q0 : Nat) (he : ws[q0]? = some (b, .inr (ci, fs))) (hst : stk = As.reverse ++ .ref b :: st) (hcat : (st.map fun v => v.category).sum ≤ 8) (hf : cells + mc ≤ (jR κ).cells ∧ slots + ms ≤ (jR κ).slots) (hd : decode cc pc = .ok (.invokevirtual index, 3))
    (E : jQ κ = vx_MQ (jb κ) Qc (xXC D tys wfy py (jA κ)) (ja κ) (js κ) mcO msO (jA κ)) (h9 : cells + mc ≤ mcO ∧ slots + ms ≤ msO) (hx : ∀ E u, px E u → ∃ u', py E u' ∧ wfx u = wfy u') (kk : ∀ (r : Int64) (u : S), post r u → J D κ (cells + mc) (slots + ms) (pc + 3) lv (.long r :: st) (wf u)) : J D κ cells slots pc lv stk ws := by
  intro H locs ls h hP hD hS
  obtain ⟨C, hno, hxw, hxs, hstt⟩ := X
  have hF : ∀ q, va_A ws H.size q → jA κ q := fun q hq => by
    rcases hq with ⟨k, e, hq⟩ | hq
    · exact hD.2 k (q, e) hq
    · exact C.a q (Nat.le_trans hS.1 hq)
  subst hst
  refine vx_calll (vx_runV (As := As) (rest := st) ⟨C.x, C.b, C.n, C.o, C.t⟩ (hM H.size) (cwV As.length C.t hG hwc hrc hrs hdd hR) ⟨cXPre_blind, va_recv C.k hP hc he, fun U hU hW => ⟨rfl, by rw [hU], by rw [hU]; exact hP, va_K.moved hW.alike C.k, hD.weaken (fun _ _ _ _ => trivial), xW.warm hW hxw, xS.to hxs hS hF hU hW⟩⟩ rfl rfl h.1 rfl (lv_room hcat) hd hf) hS (fun q _ h => hF q h) hF (fun q _ h => hF q h) (fun E9 ce q9 u t H1 locs1 ht hvm _ hB hz1 hk1 hS1 hce hcv hcl => ?_) (fun r u t H1 locs1 ht hvm hp hB hz1 hk1 hS1 => ?_)
  · obtain ⟨hp9, hP1, hK1, hD1⟩ := hB
    obtain ⟨u', hp', hw'⟩ := hx E9 u hp9
    rw [ht] at hP1
    rw [E]
    exact vx_out (fun x hx => (hno x hx).elim) C.l hce hcv hcl (fun t' ht' hvm' => ⟨u', trivial, ⟨hp', by rw [ht', ← hw']; exact hP1, va_K.moved hvm' C.k, by rw [← hw']; exact hD1.weaken (fun k q _ hq => hF q.1 hq)⟩, hS1.F ht'⟩) hS1.2.2 h9.1 h9.2
  · obtain ⟨hP1, hK1, hD1⟩ := hB
    rw [ht] at hP1
    exact kk r u hp H1 locs1 ls h hP1 (hD1.weaken (fun k q _ hq => hF q.1 hq)) hS1
/-- a call of what may throw, of one's own world: what is thrown goes on -/
theorem j_xcallV {post : S → Prop} {Qc : Array Value → State → Outcome → State → Prop} {wfy : SY → va_W} {py : String → SY → Prop} (X : CX D κ cc own Ts tys) (pc : Nat) (hM : cXV (jl κ) y wsC rm D tys (.ref b :: As) ws wf post wfx px mc ms) (hG : GoodIn Ts (wsV own index K y wsC)) (hwc : wsC = Cond.code y bytes maxL (none) :: ws') (hrc : rm.cells = mc) (hrs : rm.slots = ms) (hdd : y.cls = K ∧ y.cls ≠ "java/lang/invoke/MethodHandle" ∧ y.cls ≠ "java/lang/invoke/VarHandle" ∧ (parseMethodDescriptor y.desc).map (fun d => d.parameters.length) = some As.length) (hR : rm.frames + 1 ≤ (jR κ).frames ∧ 8 + (maxL + 11) + rm.locals ≤ (jR κ).locals) (hc : vwCl[ci]? = some (K, T, N)) (q0 : Nat) (he : ws[q0]? = some (b, .inr (ci, fs))) (hst : stk = As.reverse ++ .ref b :: st) (hcat : (st.map fun v => v.category).sum ≤ 8) (hf : cells + mc ≤ (jR κ).cells ∧ slots + ms ≤ (jR κ).slots) (hd : decode cc pc = .ok (.invokevirtual index, 3))
    (E : jQ κ = vx_MQ (jb κ) Qc (xXC D tys wfy py (jA κ)) (ja κ) (js κ) mcO msO (jA κ)) (h9 : cells + mc ≤ mcO ∧ slots + ms ≤ msO) (hx : ∀ E u, px E u → ∃ u', py E u' ∧ wfx u = wfy u') (kk : ∀ (u : S), post u → J D κ (cells + mc) (slots + ms) (pc + 3) lv st (wf u)) : J D κ cells slots pc lv stk ws := by
  intro H locs ls h hP hD hS
  obtain ⟨C, hno, hxw, hxs, hstt⟩ := X
  have hF : ∀ q, va_A ws H.size q → jA κ q := fun q hq => by
    rcases hq with ⟨k, e, hq⟩ | hq
    · exact hD.2 k (q, e) hq
    · exact C.a q (Nat.le_trans hS.1 hq)
  subst hst
  refine vx_callv (vx_runV (As := As) (rest := st) ⟨C.x, C.b, C.n, C.o, C.t⟩ (hM H.size) (cwV As.length C.t hG hwc hrc hrs hdd hR) ⟨cXPre_blind, va_recv C.k hP hc he, fun U hU hW => ⟨rfl, by rw [hU], by rw [hU]; exact hP, va_K.moved hW.alike C.k, hD.weaken (fun _ _ _ _ => trivial), xW.warm hW hxw, xS.to hxs hS hF hU hW⟩⟩ rfl rfl h.1 rfl (lv_room hcat) hd hf) hS (fun q _ h => hF q h) hF (fun q _ h => hF q h) (fun E9 ce q9 u t H1 locs1 ht hvm _ hB hz1 hk1 hS1 hce hcv hcl => ?_) (fun u t H1 locs1 ht hvm hp hB hz1 hk1 hS1 => ?_)
  · obtain ⟨hp9, hP1, hK1, hD1⟩ := hB
    obtain ⟨u', hp', hw'⟩ := hx E9 u hp9
    rw [ht] at hP1
    rw [E]
    exact vx_out (fun x hx => (hno x hx).elim) C.l hce hcv hcl (fun t' ht' hvm' => ⟨u', trivial, ⟨hp', by rw [ht', ← hw']; exact hP1, va_K.moved hvm' C.k, by rw [← hw']; exact hD1.weaken (fun k q _ hq => hF q.1 hq)⟩, hS1.F ht'⟩) hS1.2.2 h9.1 h9.2
  · obtain ⟨hP1, hK1, hD1⟩ := hB
    rw [ht] at hP1
    exact kk u hp H1 locs1 ls h hP1 (hD1.weaken (fun k q _ hq => hF q.1 hq)) hS1
end JXC
