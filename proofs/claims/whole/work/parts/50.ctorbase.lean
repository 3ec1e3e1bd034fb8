/-! Constructors and frames: what is made, and what stays beside a call -/
theorem Wd.right {D : va_G} {A : Nat → Prop} {H0 H : Heap} {locs : List Loc} {wr wc : va_W} (hw : Wd D A H0 H locs (wr ++ wc)) : va_P D vwCl wc H ∧ va_D A wc := by
  have e : ∀ k, (wr ++ wc)[wr.length + k]? = wc[k]? := fun k => by
    rw [List.getElem?_append_right (by omega)]
    congr 1
    omega
  refine ⟨fun k q hk => hw.1 (wr.length + k) q (by rw [e]; exact hk), fun i j p q hi hj hpq => ?_, fun k q hk => hw.2.1.2 (wr.length + k) q (by rw [e]; exact hk)⟩
  have := hw.2.1.1 (wr.length + i) (wr.length + j) p q (by rw [e]; exact hi) (by rw [e]; exact hj) hpq
  omega
theorem Wd.left {D : va_G} {A : Nat → Prop} {H0 H : Heap} {locs : List Loc} {wr wc : va_W} (hw : Wd D A H0 H locs (wr ++ wc)) : va_P D vwCl wr H ∧ va_D A wr := by
  have e : ∀ k q, wr[k]? = some q → (wr ++ wc)[k]? = some q := fun k q hk => by
    rw [List.getElem?_append_left (List.getElem?_eq_some_iff.mp hk).1]
    exact hk
  exact ⟨fun k q hk => hw.1 k q (e k q hk), fun i j p q hi hj hpq => hw.2.1.1 i j p q (e i p hi) (e j q hj) hpq, fun k q hk => hw.2.1.2 k q (e k q hk)⟩
theorem Wd.apart {D : va_G} {A : Nat → Prop} {H0 H : Heap} {locs : List Loc} {wr wc : va_W} (hw : Wd D A H0 H locs (wr ++ wc)) {i j : Nat} {p q : Nat × va_E} (hi : wr[i]? = some p) (hj : wc[j]? = some q) : p.1 ≠ q.1 := by
  intro hpq
  have h1 := (List.getElem?_eq_some_iff.mp hi).1
  have := hw.2.1.1 i (wr.length + j) p q (by rw [List.getElem?_append_left h1]; exact hi) (by rw [List.getElem?_append_right (by omega), show wr.length + j - wr.length = j by omega]; exact hj) hpq
  omega
theorem Wd.comm {D : va_G} {A : Nat → Prop} {H0 H : Heap} {locs : List Loc} {wr wc : va_W} (hw : Wd D A H0 H locs (wr ++ wc)) : Wd D A H0 H locs (wc ++ wr) :=
  ⟨va_P.app hw.right.1 hw.left.1, va_D.app hw.right.2 hw.left.2 (fun i j p q hi hj e => hw.apart hj hi e.symm), hw.2.2⟩
theorem Wd.join {D : va_G} {A : Nat → Prop} {H0 H H1 : Heap} {locs locs1 : List Loc} {wr wc w1 : va_W} (hw : Wd D A H0 H locs (wr ++ wc)) (hk : ∀ q : Nat, q < H.size → ¬ va_A wc H.size q → H1[q]? = H[q]?) (hF : ∀ q, va_A wc H.size q → A q) (hP1 : va_P D vwCl w1 H1) (hD1 : va_D (va_A wc H.size) w1) (hS1 : va_S A H0 H1 locs1) : Wd D A H0 H1 locs1 (wr ++ w1) := by
  have ap : ∀ (k : Nat) (q : Nat × va_E), wr[k]? = some q → q.1 < H.size ∧ ¬ va_A wc H.size q.1 := by
    intro k q hq
    have hl := (hw.left.1 k q hq).lt
    refine ⟨hl, fun h => ?_⟩
    rcases h with ⟨k2, e, h⟩ | h
    · exact hw.apart hq h rfl
    · omega
  refine ⟨va_P.app (fun k q hq => (hw.left.1 k q hq).kept (hk q.1 (ap k q hq).1 (ap k q hq).2)) hP1, va_D.app hw.left.2 (hD1.weaken (fun k q _ h => hF q.1 h)) (fun i j x y hx hy hxy => ?_), hS1⟩
  exact (ap i x hx).2 (by rw [hxy]; exact hD1.2 j y hy)
def NX (U : State) : Prop := (va_Nw (.methodLinkNest RX7 9 yX6_init RX7) U ∧ va_Nw (.methodLinkNest RX7 18 yX5_init RX7) U ∧ va_Nw (.methodLinkNest RX7 25 yX0_init RX7) U ∧ va_Nw (.methodLinkNest RX7 32 yX3_init RX7) U) ∧ va_Nw (.methodLinkNest RX3 36 yX1_init RX7) U ∧ va_Nw (.methodLinkNest RX3 43 yX2_init RX7) U
theorem NX.warm {s U : State} (hW : s.WarmedH U.vm) (h : NX s) : NX U := ⟨⟨h.1.1.warmM hW, h.1.2.1.warmM hW, h.1.2.2.1.warmM hW, h.1.2.2.2.warmM hW⟩, h.2.1.warmM hW, h.2.2.warmM hW⟩
theorem NX.same {u U : State} (e : u.vm = U.vm) (h : NX u) : NX U := ⟨⟨h.1.1.same rfl e, h.1.2.1.same rfl e, h.1.2.2.1.same rfl e, h.1.2.2.2.same rfl e⟩, h.2.1.same rfl e, h.2.2.same rfl e⟩
/-- a constructor's contract: of the one blank cell at h0, the cells f u at new addresses u -/
def MC (l : Launch) (D : va_G) (tys : List (ClassId × FieldType)) (z : Nat → Nat) (base : Nat) (y : MethodName) (wsc : List Cond) (rm : Room) (h0 : Nat) (ws : va_W) (f : (Nat → Nat) → va_W) (po : (Nat → Nat) → Prop) (mc ms : Nat) : Prop :=
  ∀ sz, Met l y wsc rm (va_Pc [.ref h0] (fun U => Pre D tys z base ws sz U ∧ NX U)) (va_Qv po (fun u t => va_P D vwCl (f u) t.heap ∧ va_K D vwCl tys t ∧ va_D (va_A ws sz) (f u)) (va_A ws sz)) mc ms (va_A ws sz)
theorem MC.of {l : Launch} {D : va_G} {tys : List (ClassId × FieldType)} {z : Nat → Nat} {base : Nat} {own : String} {y : MethodName} {wsc wsc' : List Cond} {rm : Room} {cc : ByteArray} {maxL h0 : Nat} {ws : va_W} {f : (Nat → Nat) → va_W} {po : (Nat → Nat) → Prop} {mc ms : Nat} (hy : plainName y.cls = true) (ho : y.cls = own) (hi : y.name = "<init>") (hw0 : wsc = Cond.code y cc maxL none :: wsc') (hlen : 1 ≤ maxL)
    (body : ∀ (p : Program) (e : Env) (s : State) (m : MethodId) (args : Array Value) (below : List Frame) (meth : Method) (c : Code) (A : Nat → Prop) (Q : State → Prop) (ls : Array Slot), Cx p s m args c D tys A z base own wsc cc maxL → meth.name = "<init>" → NX s → lv_has ls maxL [(0, .ref h0)] → Wd D A s.heap s.heap [] ws →
      (∀ (pc : Nat) (H : Heap) (locs : List Loc) (ls : Array Slot) (u : Nat → Nat), decode cc pc = .ok (.return_, 1) → po u → Wd D A s.heap H locs (f u) → W p l e rm s m args below meth c H locs mc ms Q (F0 m pc ls [])) → W p l e rm s m args below meth c s.heap [] 0 0 Q (F0 m 0 ls [])) : MC l D tys z base y wsc rm h0 ws f po mc ms := by
  intro sz
  refine Met.ofW (cc := cc) (maxL := maxL) (ret := none) hy hw0 ?_
  intro p e s m args below meth c s₁ B hml hv
  obtain ⟨hargs, ⟨hsz, hP, hK, hD0, hbs, hZ⟩, hN⟩ := hv
  subst hsz
  have hx := B.exec
  have hb := B.bytes
  have hr := B.returns
  have hts := atoms_spec (ws := wsc) B.pre
  have hown : s.vm.findClass own = some m.cls := by rw [← ho]; exact findClass_of_methodNamed B.named
  have hlocks := B.notSynchronized
  have hin : meth.name = "<init>" := by rw [← hi]; exact (name_of_methodNamed B.named B.method).1
  have hD := hD0.self (sz := s.heap.size)
  have hl := lv_entry ([.ref h0]) (n := maxL) hlen
  rw [show entryFrame m args maxL = F0 m 0 ((lg_sl [.ref h0] ++ List.replicate (maxL - (lg_sl [.ref h0]).length) Slot.unset).toArray) [] from by rw [hargs]; exact lg_entry_eq m [.ref h0] maxL]
  refine body p e s m args below meth c (va_A ws s.heap.size) _ _ ⟨⟨hx, hb, hml, hown, hts⟩, hK, fun q h => Or.inr h, ?_, hbs, hZ⟩ hin hN hl ⟨hP, hD, va_S.rf⟩ ?_
  · intro q h
    rcases h with ⟨k, e, h⟩ | h
    · exact hD0.2 k _ h
    · exact Nat.le_trans hbs h
  · intro pc H locs ls u hd hpo hw
    exact W.vret hx hb hr (fun t ht hW => ⟨⟨u, rfl, hpo, by rw [ht]; exact hw.1, va_K.moved hW.alike hK, hw.2.1⟩, hw.2.2.F ht⟩) hw.2.2.2.2 hd
section CTOR1
variable {p : Program} {l : Launch} {e : Env} {R : Room} {s : State} {m : MethodId} {args : Array Value} {below : List Frame} {meth : Method} {c : Code} {H : Heap} {locs : List Loc} {cells slots : Nat} {Q : State → Prop}
variable {D : va_G} {tys : List (ClassId × FieldType)} {A : Nat → Prop} {z : Nat → Nat} {base : Nat} {own : String} {Ts : List Cond} {cc : ByteArray} {nL : Nat} {ws ws' : va_W} {pc : Nat} {ls : Array Slot} {rest : List Value}
theorem r_obj (C : Cx p s m args c D tys A z base own Ts cc nL) (hl : ls.size = nL) {idx a : Nat} (hlink : Cond.methodLink own idx objectInit ∈ Ts) (hinst : Cond.instanceMethod objectInit ∈ Ts) (hcode : Cond.code objectInit ⟨#[0xb1]⟩ 1 none ∈ Ts) (hd : decode cc pc = .ok (.invokespecial idx, 3)) (hframes : 1 ≤ R.frames) (hlocals : 12 ≤ R.locals)
    (kk : W p l e R s m args below meth c H locs cells slots Q (F0 m (pc + 3) ls [])) : W p l e R s m args below meth c H locs cells slots Q (F0 m pc ls [.ref a]) :=
  W.objInit C.1.1 C.1.2.1 C.1.2.2.2.1 (C.1.2.2.2.2 _ hlink) (C.1.2.2.2.2 _ hinst) (C.1.2.2.2.2 _ hcode) rfl (by rw [C.1.2.2.1]; exact hl) rfl hd hframes hlocals kk
theorem r_newa (C : Cx p s m args c D tys A z base own Ts cc nL) (hw : Wd D A s.heap H locs ws) {atype : ArrayType} {ty : FieldType} (hty : newarray.typeOf atype = ty) (harr : Cond.arrayClass ty ∈ Ts) (t0 : Nat) {cA : ClassId} (ht : tys[t0]? = some (cA, ty)) (hprim : ∀ (U : State) (k : ClassId), va_RA U k ty → U.vm.findClass ("[" ++ ty.toString) = some k)
    {n : Int32} {N' : Nat} {a0 : vp_A} (ha : ∀ cA : ClassId, vp_cell cA a0 = arrV cA N' (fun _ => defaultValue ty)) (hn : ¬ n < 0) (hN : n.toNatClampNeg = N') (hbytes : N' * componentBytes ty ≤ 536870912) (hcells : cells + 1 ≤ R.cells) (hslots : slots + N' ≤ R.slots) (hdg : decode cc pc = .ok (.newarray atype, 2))
    (kk : ∀ (q : Nat) (H1 : Heap), Wd D A s.heap H1 locs (ws ++ [(q, .inl (cA, a0))]) → W p l e R s m args below meth c H1 locs (cells + 1) (slots + N') Q (F0 m (pc + 2) ls (.ref q :: rest))) : W p l e R s m args below meth c H locs cells slots Q (F0 m pc ls (.int n :: rest)) := by
  refine va_newa C.1.1 C.1.2.1 (by rw [hty]; exact C.1.2.2.2.2 _ harr) hty C.2.1 hw.1 hw.2.1 hw.2.2 C.2.2.1 ha hn hN hbytes hcells hslots hdg (fun q cA' H1 hK hP hD hS => ?_)
  have h1 := hprim s _ (C.2.1.2 t0 _ ht).2
  have h2 := hprim s _ (hK.2 tys.length (cA', ty) (by simp)).2
  have e : cA' = cA := Option.some.inj (h2.symm.trans h1)
  subst e
  exact kk q H1 ⟨hP, hD, hS⟩
theorem r_putF (C : Cx p s m args c D tys A z base own Ts cc nL) (hw : Wd D A s.heap H locs ws) {Cn : String} {T : u_T} {N ci index : Nat} (hin : ∀ w ∈ u_ws Cn T N, w ∈ Ts) (ty0 : Nat → FieldType) (hty : ∀ k, k < N → parseFieldDescriptor (T k).2.2.1 = some (ty0 k)) (hnm : ∀ a, a < N → ∀ b, b < N → a ≠ b → (T a).2.1 ≠ (T b).2.1) (hin2 : meth.name = "<init>") (q0 : Nat) {a : Nat} {fs : List Value} (he : ws[q0]? = some (a, .inr (ci, fs))) (hc : vwCl[ci]? = some (Cn, T, N)) (k : Nat) (hk : k < N) (hlink : Cond.fieldLink own index (T k).1 (T k).2.1 (T k).2.2.1 ∈ Ts) (hfin : (T k).2.2.2 = true) (hdecl : (T k).1 = own) {ty : FieldType} {v : Value} (hd : parseFieldDescriptor (T k).2.2.1 = some ty) (hn : narrow ty v = v) (hfit : fits ty v = true) (hl : k < fs.length)
    (hset : ws.set q0 (a, .inr (ci, fs.set k v)) = ws') (hdg : decode cc pc = .ok (.putfield index, 3)) (kk : ∀ (H1 : Heap) (locs1 : List Loc), Wd D A s.heap H1 locs1 ws' → W p l e R s m args below meth c H1 locs1 cells slots Q (F0 m (pc + 3) ls rest)) : W p l e R s m args below meth c H locs cells slots Q (F0 m pc ls (v :: .ref a :: rest)) := by
  refine va_putF C.1.1 C.1.2.1 C.1.2.2.2.2 hin ty0 hty hnm C.1.2.2.2.1 C.2.1 hw.1 hw.2.1 hw.2.2 q0 he hc k hk (C.1.2.2.2.2 _ hlink) (fun _ h => h) hfin hin2 hdecl hd hn hfit hl hdg (fun H1 locs1 h1 h2 h3 => kk H1 locs1 ⟨?_, ?_, h3⟩)
  · rw [← hset]; exact h1
  · rw [← hset]; exact h2
theorem r_new (C : Cx p s m args c D tys A z base own Ts cc nL) (hw : Wd D A s.heap H locs ws) {Cn : String} {T : u_T} {N ci index : Nat} (hin : ∀ w ∈ u_ws Cn T N, w ∈ Ts) (ty : Nat → FieldType) (hty : ∀ k, k < N → parseFieldDescriptor (T k).2.2.1 = some (ty k)) (hcl : Cond.classLink own index Cn ∈ Ts) (hinst : Cond.instantiable Cn N ∈ Ts) (hini : Cond.initialized Cn ∈ Ts) (hc : vwCl[ci]? = some (Cn, T, N)) {fs : List Value} (hfs : ∀ j, j < N → defaultValue (ty j) = vp_V fs j) (hcells : cells + 1 ≤ R.cells) (hslots : slots + N ≤ R.slots) (hdg : decode cc pc = .ok (.new index, 3))
    (kk : ∀ (q : Nat) (H1 : Heap), Wd D A s.heap H1 locs (ws ++ [(q, .inr (ci, fs))]) → W p l e R s m args below meth c H1 locs (cells + 1) (slots + N) Q (F0 m (pc + 3) ls (.ref q :: rest))) : W p l e R s m args below meth c H locs cells slots Q (F0 m pc ls rest) :=
  va_new C.1.1 C.1.2.1 C.1.2.2.2.2 hin ty hty C.1.2.2.2.1 (C.1.2.2.2.2 _ hcl) (C.1.2.2.2.2 _ hinst) (C.1.2.2.2.2 _ hini) C.2.1 hw.1 hw.2.1 hw.2.2 C.2.2.1 hc hfs hcells hslots hdg (fun q H1 h1 h2 h3 => kk q H1 ⟨h1, h2, h3⟩)
variable {y : MethodName} {wsc wsc' : List Cond} {rm : Room} {bytes : ByteArray} {maxL n index : Nat} {ret : Option FieldType} {Cn : String} {b : Addr} {As st0 : List Value} {r : Int32} {wr wc : va_W} {f : (Nat → Nat) → va_W} {po : (Nat → Nat) → Prop} {mc ms : Nat} {host : String}
theorem MC.blind {sz : Nat} {vs : List Value} : FrameBlind (va_Pc vs (fun U => Pre D tys z base ws sz U ∧ NX U)) := by
  intro a U g mk q
  obtain ⟨q0, ⟨q1, qP, qK, qD, qb, qZ⟩, qN⟩ := q
  exact ⟨q0, ⟨q1, qP, va_K.moved (u := U) (U := U.calling g mk a) (Vm.Alike.refl U.vm) qK, qD, qb, qZ.blind⟩, NX.same rfl qN⟩
theorem r_callIN (C : Cx p s m args c D tys A z base own Ts cc nL) (hN : NX s) (hw : Wd D A s.heap H locs (wr ++ wc)) (hM : MC l D tys z base y wsc rm b wc f po mc ms) (cw : va_CN R s args own index y host bytes maxL none wsc rm mc ms 0 ∧ y.name = "<init>" ∧ (Cond.instanceMethod y).before args s = true)
    (hsize : ls.size = nL) (hW : (rest.map fun v => v.category).sum ≤ 8) (hdg : decode cc pc = .ok (.invokespecial index, 3)) (hf : cells + mc ≤ R.cells ∧ slots + ms ≤ R.slots)
    (kk : ∀ (u : Nat → Nat) (H1 : Heap) (locs1 : List Loc), po u → Wd D A s.heap H1 locs1 (wr ++ f u) → W p l e R s m args below meth c H1 locs1 (cells + mc) (slots + ms) Q (F0 m (pc + 3) ls rest)) : W p l e R s m args below meth c H locs cells slots Q (F0 m pc ls (.ref b :: rest)) := by
  have hwc : Wd D A s.heap H locs wc := ⟨hw.right.1, hw.right.2, hw.2.2⟩
  have hFc := hwc.free C.2.2.1
  refine va_callv (va_runIN (As := []) (rest := rest) C.1 (hM H.size) cw ⟨MC.blind, fun U hU hW => ⟨rfl, (Wd.pre C hwc (vs := []) rfl U hU hW rfl).2, hN.warm hW⟩⟩ rfl rfl hsize rfl (lv_room hW) hdg hf) hw.2.2 (fun q _ h => hFc q h) hFc (fun u t H1 locs1 ht hvm hp hB hz1 hk1 hS => ?_)
  obtain ⟨hP1, hK1, hD1⟩ := hB
  rw [ht] at hP1
  exact kk u H1 locs1 hp (hw.join hk1 hFc hP1 hD1 hS)
theorem r_callI (C : Cx p s m args c D tys A z base own Ts cc nL) (hN : NX s) (hw : Wd D A s.heap H locs (wr ++ wc)) (hM : MC l D tys z base y wsc rm b wc f po mc ms) (cw : CallB R s args own index y bytes maxL none wsc rm mc ms 0 ∧ y.name = "<init>" ∧ (Cond.instanceMethod y).before args s = true)
    (hsize : ls.size = nL) (hW : (rest.map fun v => v.category).sum ≤ 8) (hdg : decode cc pc = .ok (.invokespecial index, 3)) (hf : cells + mc ≤ R.cells ∧ slots + ms ≤ R.slots)
    (kk : ∀ (u : Nat → Nat) (H1 : Heap) (locs1 : List Loc), po u → Wd D A s.heap H1 locs1 (wr ++ f u) → W p l e R s m args below meth c H1 locs1 (cells + mc) (slots + ms) Q (F0 m (pc + 3) ls rest)) : W p l e R s m args below meth c H locs cells slots Q (F0 m pc ls (.ref b :: rest)) := by
  have hwc : Wd D A s.heap H locs wc := ⟨hw.right.1, hw.right.2, hw.2.2⟩
  have hFc := hwc.free C.2.2.1
  refine va_callv (va_runI (As := []) (rest := rest) C.1 (hM H.size) cw ⟨MC.blind, fun U hU hW => ⟨rfl, (Wd.pre C hwc (vs := []) rfl U hU hW rfl).2, hN.warm hW⟩⟩ rfl rfl hsize rfl (lv_room hW) hdg hf) hw.2.2 (fun q _ h => hFc q h) hFc (fun u t H1 locs1 ht hvm hp hB hz1 hk1 hS => ?_)
  obtain ⟨hP1, hK1, hD1⟩ := hB
  rw [ht] at hP1
  exact kk u H1 locs1 hp (hw.join hk1 hFc hP1 hD1 hS)
/-- a call beside other cells (the law's) -/
theorem r_callF (C : Cx p s m args c D tys A z base own Ts cc nL) (hw : Wd D A s.heap H locs (wr ++ ws)) (hM : MI l D tys z base y wsc rm (.ref b :: As) ws r ws') (cw : CallW R s args own Cn index y bytes maxL ret wsc rm 0 0 n) (hrecv : ∃ cellB : Cell, H[b]? = some cellB ∧ cellB.vm.isStatics = false ∧ s.vm.findClass Cn = some cellB.cls)
    (hn : As.length = n) (hsize : ls.size = nL) (hstack : st0 = As.reverse ++ .ref b :: rest) (hW : (rest.map fun v => v.category).sum ≤ 8) (hdg : decode cc pc = .ok (.invokevirtual index, 3)) (hf : cells ≤ R.cells ∧ slots ≤ R.slots)
    (kk : ∀ (H1 : Heap) (locs1 : List Loc), Wd D A s.heap H1 locs1 (wr ++ ws') → W p l e R s m args below meth c H1 locs1 cells slots Q (F0 m (pc + 3) ls (.int r :: rest))) : W p l e R s m args below meth c H locs cells slots Q (F0 m pc ls st0) := by
  have hwc : Wd D A s.heap H locs ws := ⟨hw.right.1, hw.right.2, hw.2.2⟩
  have hFc := hwc.free C.2.2.1
  refine va_calli (va_runV (rest := rest) C.1 (hM H.size) cw ⟨Pre.blind, hrecv, fun U hU hW => Wd.pre C hwc rfl U hU hW rfl⟩ rfl hn hsize hstack (lv_room hW) hdg hf) hw.2.2 (fun q _ h => hFc q h) hFc (fun r' u t H1 locs1 ht hvm hp hB hz1 hk1 hS => ?_)
  obtain ⟨rfl, rfl⟩ := hp
  obtain ⟨hP1, hK1, hD1⟩ := hB
  rw [ht] at hP1
  exact kk H1 locs1 (hw.join hk1 hFc hP1 hD1 hS)
end CTOR1
