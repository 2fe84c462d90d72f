/-! contracts that answer a reference -/
theorem cR_start {S : Type} {l : Launch} {y : MethodName} {wsC ws' : List Cond} {rm : Room} {D : va_G} {tys : List (ClassId × FieldType)} {av : List Value} {w0 : va_W} {wf : S → va_W} {post : Nat → S → Prop} {mc ms maxL : Nat} {cc : ByteArray} {rt : FieldType} (own : String) (ho : y.cls = own) (hy : plainName y.cls = true) (hw : wsC = Cond.code y cc maxL (some rt) :: ws') (hlen : (lg_sl av).length ≤ maxL)
    (body : ∀ κ : Kx, jl κ = l → Cx D κ cc own wsC tys → (jh κ).sig.returnType = some rt → (y.name = "<init>" → (jh κ).name = "<init>") → jQ κ = MQ (jb κ) (va_Qr (S := S × Nat) (fun u => post u.2 u.1) (fun u a t => a = u.2 ∧ cAt D tys wf (jA κ) u.1 t) (jA κ)) (ja κ) (js κ) mc ms (jA κ) → jR κ = rm → jn κ = maxL → J D κ 0 0 0 (lv_args 0 av) [] w0) : cR l y wsC rm D tys av w0 wf post mc ms := by
  intro sz
  refine Met.ofW (cc := cc) (maxL := maxL) (ret := some rt) hy hw ?_
  intro p e s m args below meth c s₁ B hml hv
  obtain ⟨rfl, hsz, hP, hK, hD0⟩ := hv
  subst hsz
  have hD := hD0.self (sz := s.heap.size)
  have hown : s.vm.findClass own = some m.cls := by rw [← ho]; exact findClass_of_methodNamed B.named
  have K := body (p, l, e, (headSpec wsC rm).room, s, m, av.toArray, below, meth, c, MQ below (va_Qr (S := S × Nat) (fun u => post u.2 u.1) (fun u a t => a = u.2 ∧ cAt D tys wf (va_A w0 s.heap.size) u.1 t) (va_A w0 s.heap.size)) av.toArray s mc ms (va_A w0 s.heap.size), va_A w0 s.heap.size, maxL) rfl ⟨B.exec, B.bytes, hml, hown, atoms_spec (ws := wsC) B.pre, hK, fun q h => Or.inr h, B.notSynchronized⟩ B.returns (fun h => by rw [(name_of_methodNamed B.named B.method).1]; exact h) rfl rfl rfl
  have hl := lv_entry av hlen
  rw [lg_entry_eq]
  generalize (lg_sl av ++ List.replicate (maxL - (lg_sl av).length) Slot.unset).toArray = ls at hl ⊢
  exact K s.heap [] ls hl hP hD va_S.rf
section JER
variable {S : Type} {D : va_G} {κ : Kx} {cc : ByteArray} {own : String} {Ts : List Cond} {tys : List (ClassId × FieldType)} {cells slots mc ms pc : Nat} {lv : List (Nat × Value)} {ws : va_W} {wf : S → va_W}
theorem j_areti {post : Nat → S → Prop} {x : Nat} {rt : FieldType} (C : Cx D κ cc own Ts tys) (hr : (jh κ).sig.returnType = some rt) (E : jQ κ = MQ (jb κ) (va_Qr (S := S × Nat) (fun u => post u.2 u.1) (fun u a t => a = u.2 ∧ cAt D tys wf (jA κ) u.1 t) (jA κ)) (ja κ) (js κ) mc ms (jA κ)) (hc : cells ≤ mc) (hs : slots ≤ ms) (hn : ∃ n, rt = .object n) (u : S) (hp : post x u) (hw : ws = wf u) (hd : decode cc pc = .ok (.areturn, 1)) : J D κ cells slots pc lv [.ref x] ws := by
  intro H locs ls h hP hD hS
  refine W.widen hc hs ?_
  rw [E]
  subst hw
  exact W.aret (v := .ref x) C.x C.b hr (Or.inl hn) (Or.inr ⟨x, rfl⟩) (fun t ht hW => ⟨⟨(u, x), x, rfl, hp, rfl, by rw [ht]; exact hP, va_K.moved hW.alike C.k, hD⟩, hS.F ht⟩) hS.2.2 hd C.l
end JER
section JCR
variable {S : Type} {D : va_G} {κ : Kx} {cc : ByteArray} {own : String} {Ts : List Cond} {tys : List (ClassId × FieldType)} {cells slots mc ms n index maxL ci : Nat} {lv : List (Nat × Value)} {st stk As : List Value} {ws wr : va_W} {wf : S → va_W} {y : MethodName} {bytes : ByteArray} {wsC ws' : List Cond} {rm : Room} {b : Nat} {K : String} {T : u_T} {N : Nat} {fs : List Value}
theorem j_callR {rt : FieldType} {post : Nat → S → Prop} (C : Cx D κ cc own Ts tys) (pc : Nat) (hM : cR (jl κ) y wsC rm D tys (.ref b :: As) ws wf post mc ms) (hG : GoodIn Ts (wsV own index K y wsC)) (hwc : wsC = Cond.code y bytes maxL (some rt) :: ws') (hrc : rm.cells = mc) (hrs : rm.slots = ms) (hdd : y.cls = K ∧ y.cls ≠ "java/lang/invoke/MethodHandle" ∧ y.cls ≠ "java/lang/invoke/VarHandle" ∧ (parseMethodDescriptor y.desc).map (fun d => d.parameters.length) = some As.length) (hR : rm.frames + 1 ≤ (jR κ).frames ∧ 8 + (maxL + 11) + rm.locals ≤ (jR κ).locals) (hc : vwCl[ci]? = some (K, T, N)) (q0 : Nat) (he : ws[q0]? = some (b, .inr (ci, fs))) (hst : stk = As.reverse ++ .ref b :: st) (hcat : (st.map fun v => v.category).sum ≤ 8) (hf : cells + mc ≤ (jR κ).cells ∧ slots + ms ≤ (jR κ).slots) (hd : decode cc pc = .ok (.invokevirtual index, 3)) (kk : ∀ (r : Nat) (u : S), post r u → J D κ (cells + mc) (slots + ms) (pc + 3) lv (.ref r :: st) (wf u)) : J D κ cells slots pc lv stk ws := by
  intro H locs ls h hP hD hS
  have hF : ∀ q, va_A ws H.size q → jA κ q := fun q hq => by
    rcases hq with ⟨k, e, hq⟩ | hq
    · exact hD.2 k (q, e) hq
    · exact C.a q (Nat.le_trans hS.1 hq)
  subst hst
  refine va_callr (va_runV (As := As) (rest := st) ⟨C.x, C.b, C.n, C.o, C.t⟩ (hM H.size) (cwV As.length C.t hG hwc hrc hrs hdd hR) ⟨cPre_blind, va_recv C.k hP hc he, fun U hU hW => ⟨rfl, by rw [hU], by rw [hU]; exact hP, va_K.moved hW.alike C.k, hD.weaken (fun _ _ _ _ => trivial)⟩⟩ rfl rfl h.1 rfl (lv_room hcat) hd hf) hS (fun q _ h => hF q h) hF (fun u ra t H1 locs1 ht hvm hp hB hz1 hk1 hS1 => ?_)
  obtain ⟨rfl, hP1, hK1, hD1⟩ := hB
  rw [ht] at hP1
  exact kk u.2 u.1 hp H1 locs1 ls h hP1 (hD1.weaken (fun k q _ hq => hF q.1 hq)) hS1
end JCR
