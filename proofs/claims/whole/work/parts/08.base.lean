/-! The words of all walks: a state is a table of numbers (cell, place); a program text in logic is a partial function; each row of the machine follows it. -/
abbrev St : Type := Nat → Nat → Int32
def fu : Nat := 9000
def st (σ : St) (c k : Nat) (v : Int32) : St := fun d => if d = c then upd (σ c) k v else σ d
def ushr (x y : Int32) : Int32 := (x.toUInt32 >>> (y.toUInt32 &&& Int32.toUInt32 31)).toInt32
def nm {α β : Type} (e : α) (k : α → β) : β := k e
theorem nmE {α β : Type} {e x : α} {k : α → β} {y : β} (hx : x = e) (h : nm e k = y) : k x = y := by subst hx; exact h
def ix {α : Type} (n : Nat) (i : Int32) (x : Option α) : Option α := if i < 0 ∨ n ≤ i.toNatClampNeg then none else x
theorem ixE {α : Type} {n : Nat} {i : Int32} {x : Option α} {y : α} (h : ix n i x = some y) : vp_in i n ∧ x = some y := by
  unfold ix at h
  split at h
  · cases h
  · rename_i hc; exact ⟨hc, h⟩
def bo {α : Type} (v : Int32) (x : Option α) : Option α := if v = 0 ∨ v = 1 then x else none
theorem boE {α : Type} {v : Int32} {x : Option α} {y : α} (h : bo v x = some y) : (v = 0 ∨ v = 1) ∧ x = some y := by
  unfold bo at h
  split at h
  · rename_i hc; exact ⟨hc, h⟩
  · cases h
def b2 {α : Type} (o : Option (Int32 × St)) (k : Int32 → St → Option α) : Option α := match o with
  | some q => k q.1 q.2
  | none => none
theorem b2E {α : Type} {o : Option (Int32 × St)} {k : Int32 → St → Option α} {y : α} (h : b2 o k = some y) : ∃ (r : Int32) (σ : St), o = some (r, σ) ∧ k r σ = some y := by
  cases o with
  | none => cases h
  | some q => exact ⟨q.1, q.2, rfl, h⟩
def b1 {β α : Type} (o : Option β) (k : β → Option α) : Option α := match o with
  | some r => k r
  | none => none
theorem b1E {β α : Type} {o : Option β} {k : β → Option α} {y : α} (h : b1 o k = some y) : ∃ r : β, o = some r ∧ k r = some y := by
  cases o with
  | none => cases h
  | some r => exact ⟨r, rfl, h⟩
theorem itT {α : Type} {c : Prop} {dc : Decidable c} {a b y : α} (hc : c) (h : @ite α c dc a b = y) : a = y := by rw [if_pos hc] at h; exact h
theorem itF {α : Type} {c : Prop} {dc : Decidable c} {a b y : α} (hc : ¬ c) (h : @ite α c dc a b = y) : b = y := by rw [if_neg hc] at h; exact h
theorem nar01 {v : Int32} (h : v = 0 ∨ v = 1) : narrow .boolean (.int v) = .int v := by
  rcases h with rfl | rfl <;> rfl
theorem fit01 {v : Int32} (h : v = 0 ∨ v = 1) : fits .boolean (.int v) = true := by
  rcases h with rfl | rfl <;> rfl
/-- the three tables of Operands -/
def tF (k : Nat) : Int32 := ([1, 0, 2, 2, 0, 0, 0, 0, 0, 0, 0, 0, 0, 0, 0, 0, 0, 0, 0, 3, 3, 4, 4, 4, 4, 4, 5, 5, 5, 5, 5, 7, 0, 0, 0, 8, 5, 0, 0, 0, 0, 0] : List Int32).getD k 0
def tS (k : Nat) : Int32 := ([0, 0, 0, 0, 0, 0, 0, 0, 0, 0, 0, 0, 0, 0, 0, 0, 0, 0, 0, 4, 4, 0, 0, 0, 0, 0, 0, 6, 6, 0, 0, 0, 0, 0, 0, 0, 9, 0, 0, 0, 0, 0] : List Int32).getD k 0
def tW (k : Nat) : Int32 := ([0, 4, 1, 1, 2, 1, 1, 1, 1, 1] : List Int32).getD k 0
def Z1 (n : String) (zk L : Nat) (f : Nat → Int32) (base : Nat) (U : State) : Prop := va_Z RX4 n "[I" (.ref zk) (fun q => base ≤ q) U U.heap ∧ va_T .int zk L (fun j => .int (f j)) (fun q => base ≤ q) U U.heap ∧ zk < base
def ZZ (z : Nat → Nat) (base : Nat) (U : State) : Prop := Z1 "FIRSTS" (z 0) 42 tF base U ∧ Z1 "SECONDS" (z 1) 42 tS base U ∧ Z1 "WIDTHS" (z 2) 10 tW base U
theorem Z1.go {n : String} {zk L : Nat} {f : Nat → Int32} {base : Nat} {s U : State} {A : Nat → Prop} {H : Heap} {locs : List Loc} (h : Z1 n zk L f base s) (hAb : ∀ q, A q → base ≤ q) (hbs : base ≤ s.heap.size) (hS : va_S A s.heap H locs) (hU : U.heap = H) (hvm : s.vm.Alike U.vm) : Z1 n zk L f base U := by
  obtain ⟨h1, h2, h3⟩ := h
  unfold Z1
  rw [hU]
  have k : ∀ a : Nat, a < s.heap.size → ¬ (base ≤ a) → H[a]? = s.heap[a]? := fun a ha hb => hS.2.1 a ha (fun q => hb (hAb a q))
  exact ⟨va_Z.moved hvm (va_Z.kept h1 k), va_T.moved hvm (va_T.kept h2 k), h3⟩
theorem ZZ.go {z : Nat → Nat} {base : Nat} {s U : State} {A : Nat → Prop} {H : Heap} {locs : List Loc} (h : ZZ z base s) (hAb : ∀ q, A q → base ≤ q) (hbs : base ≤ s.heap.size) (hS : va_S A s.heap H locs) (hU : U.heap = H) (hvm : s.vm.Alike U.vm) : ZZ z base U :=
  ⟨h.1.go hAb hbs hS hU hvm, h.2.1.go hAb hbs hS hU hvm, h.2.2.go hAb hbs hS hU hvm⟩
theorem ZZ.blind {z : Nat → Nat} {base : Nat} {U : State} {g : JFrame} {mk : MethodId} {a : Array Value} (h : ZZ z base U) : ZZ z base (U.calling g mk a) :=
  ⟨⟨va_Z.moved (Vm.Alike.refl U.vm) h.1.1, va_T.moved (u := U) (Vm.Alike.refl U.vm) h.1.2.1, h.1.2.2⟩, ⟨va_Z.moved (Vm.Alike.refl U.vm) h.2.1.1, va_T.moved (u := U) (Vm.Alike.refl U.vm) h.2.1.2.1, h.2.1.2.2⟩, ⟨va_Z.moved (Vm.Alike.refl U.vm) h.2.2.1, va_T.moved (u := U) (Vm.Alike.refl U.vm) h.2.2.2.1, h.2.2.2.2⟩⟩
/-- what a method's walk stands on, from its start on -/
def Cx (p : Program) (s : State) (m : MethodId) (args : Array Value) (c : Code) (D : va_G) (tys : List (ClassId × FieldType)) (A : Nat → Prop) (z : Nat → Nat) (base : Nat) (own : String) (Ts : List Cond) (cc : ByteArray) (nL : Nat) : Prop :=
  CallFix p m c cc nL s args Ts own ∧ va_K D vwCl tys s ∧ (∀ q, s.heap.size ≤ q → A q) ∧ (∀ q, A q → base ≤ q) ∧ base ≤ s.heap.size ∧ ZZ z base s
/-- the world now -/
def Wd (D : va_G) (A : Nat → Prop) (H0 H : Heap) (locs : List Loc) (ws : va_W) : Prop := va_P D vwCl ws H ∧ va_D A ws ∧ va_S A H0 H locs
def Pre (D : va_G) (tys : List (ClassId × FieldType)) (z : Nat → Nat) (base : Nat) (ws : va_W) (sz : Nat) : State → Prop := fun U => U.heap.size = sz ∧ va_P D vwCl ws U.heap ∧ va_K D vwCl tys U ∧ va_D (fun q => base ≤ q) ws ∧ base ≤ sz ∧ ZZ z base U
def Post (D : va_G) (tys : List (ClassId × FieldType)) (ws : va_W) (sz : Nat) : va_W → State → Prop := fun u t => va_P D vwCl u t.heap ∧ va_K D vwCl tys t ∧ va_D (va_A ws sz) u
def MI (l : Launch) (D : va_G) (tys : List (ClassId × FieldType)) (z : Nat → Nat) (base : Nat) (y : MethodName) (wsc : List Cond) (rm : Room) (vs : List Value) (ws : va_W) (r : Int32) (ws' : va_W) : Prop :=
  ∀ sz, Met l y wsc rm (va_Pc vs (Pre D tys z base ws sz)) (va_Qi (fun (r' : Int32) (u : va_W) => r' = r ∧ u = ws') (Post D tys ws sz) (va_A ws sz)) 0 0 (va_A ws sz)
def MV (l : Launch) (D : va_G) (tys : List (ClassId × FieldType)) (z : Nat → Nat) (base : Nat) (y : MethodName) (wsc : List Cond) (rm : Room) (vs : List Value) (ws : va_W) (ws' : va_W) : Prop :=
  ∀ sz, Met l y wsc rm (va_Pc vs (Pre D tys z base ws sz)) (va_Qv (fun (u : va_W) => u = ws') (Post D tys ws sz) (va_A ws sz)) 0 0 (va_A ws sz)
theorem Pre.blind {D : va_G} {tys : List (ClassId × FieldType)} {z : Nat → Nat} {base : Nat} {ws : va_W} {sz : Nat} {vs : List Value} : FrameBlind (va_Pc vs (Pre D tys z base ws sz)) := by
  intro a U g mk q
  obtain ⟨q0, q1, qP, qK, qD, qb, qZ⟩ := q
  exact ⟨q0, q1, qP, va_K.moved (u := U) (U := U.calling g mk a) (Vm.Alike.refl U.vm) qK, qD, qb, qZ.blind⟩
theorem Wd.free {D : va_G} {A : Nat → Prop} {H0 H : Heap} {locs : List Loc} {ws : va_W} (hw : Wd D A H0 H locs ws) (hA : ∀ q, H0.size ≤ q → A q) : ∀ q, va_A ws H.size q → A q := by
  intro q h
  rcases h with ⟨k, e, h⟩ | h
  · exact hw.2.1.2 k _ h
  · exact hA q (Nat.le_trans hw.2.2.1 h)
section BASE1
variable {p : Program} {l : Launch} {e : Env} {R : Room} {s : State} {m : MethodId} {args : Array Value} {below : List Frame} {meth : Method} {c : Code} {H : Heap} {locs : List Loc} {cells slots : Nat} {Q : State → Prop}
variable {D : va_G} {tys : List (ClassId × FieldType)} {A : Nat → Prop} {z : Nat → Nat} {base : Nat} {own : String} {Ts : List Cond} {cc : ByteArray} {nL : Nat} {ws ws' : va_W} {pc : Nat} {ls : Array Slot} {rest : List Value}
theorem Wd.pre {sz : Nat} (C : Cx p s m args c D tys A z base own Ts cc nL) (hw : Wd D A s.heap H locs ws) {vs : List Value} {a : Array Value} (ha : a = vs.toArray) : ∀ U : State, U.heap = H → s.WarmedH U.vm → sz = H.size → va_Pc vs (Pre D tys z base ws sz) a U := by
  intro U hU hW hsz
  refine ⟨ha, by rw [hU, hsz], by rw [hU]; exact hw.1, va_K.moved hW.alike C.2.1, hw.2.1.weaken (fun _ q _ h => C.2.2.2.1 q.1 h), ?_, C.2.2.2.2.2.go C.2.2.2.1 C.2.2.2.2.1 hw.2.2 hU hW.alike⟩
  rw [hsz]
  exact Nat.le_trans C.2.2.2.2.1 hw.2.2.1
theorem r_get (C : Cx p s m args c D tys A z base own Ts cc nL) (hw : Wd D A s.heap H locs ws) {Cn : String} {T : u_T} {N ci index : Nat} (hin : ∀ w ∈ u_ws Cn T N, w ∈ Ts) (q0 : Nat) {a : Nat} {fs : List Value} (he : ws[q0]? = some (a, .inr (ci, fs))) (hc : vwCl[ci]? = some (Cn, T, N)) (k : Nat) (hk : k < N) (hlink : Cond.fieldLink own index (T k).1 (T k).2.1 (T k).2.2.1 ∈ Ts) {v : Value} (hv : fs[k]? = some v) (hdg : decode cc pc = .ok (.getfield index, 3))
    (kk : W p l e R s m args below meth c H locs cells slots Q (F0 m (pc + 3) ls (v :: rest))) : W p l e R s m args below meth c H locs cells slots Q (F0 m pc ls (.ref a :: rest)) :=
  va_get C.1.1 C.1.2.1 C.1.2.2.2.2 hin C.1.2.2.2.1 C.2.1 hw.1 q0 he hc k hk (C.1.2.2.2.2 _ hlink) (fun _ h => h) hv hdg kk
theorem r_put (C : Cx p s m args c D tys A z base own Ts cc nL) (hw : Wd D A s.heap H locs ws) {Cn : String} {T : u_T} {N ci index : Nat} (hin : ∀ w ∈ u_ws Cn T N, w ∈ Ts) (ty0 : Nat → FieldType) (hty : ∀ k, k < N → parseFieldDescriptor (T k).2.2.1 = some (ty0 k)) (hnm : ∀ a, a < N → ∀ b, b < N → a ≠ b → (T a).2.1 ≠ (T b).2.1) (q0 : Nat) {a : Nat} {fs : List Value} (he : ws[q0]? = some (a, .inr (ci, fs))) (hc : vwCl[ci]? = some (Cn, T, N)) (k : Nat) (hk : k < N) (hlink : Cond.fieldLink own index (T k).1 (T k).2.1 (T k).2.2.1 ∈ Ts) (hfin : (T k).2.2.2 = false) {ty : FieldType} {v : Value} (hd : parseFieldDescriptor (T k).2.2.1 = some ty) (hn : narrow ty v = v) (hfit : fits ty v = true) (hl : k < fs.length)
    (hset : ws.set q0 (a, .inr (ci, fs.set k v)) = ws') (hdg : decode cc pc = .ok (.putfield index, 3)) (kk : ∀ (H1 : Heap) (locs1 : List Loc), Wd D A s.heap H1 locs1 ws' → W p l e R s m args below meth c H1 locs1 cells slots Q (F0 m (pc + 3) ls rest)) : W p l e R s m args below meth c H locs cells slots Q (F0 m pc ls (v :: .ref a :: rest)) := by
  refine va_put C.1.1 C.1.2.1 C.1.2.2.2.2 hin ty0 hty hnm C.1.2.2.2.1 C.2.1 hw.1 hw.2.1 hw.2.2 q0 he hc k hk (C.1.2.2.2.2 _ hlink) (fun _ h => h) hfin hd hn hfit hl hdg (fun H1 locs1 h1 h2 h3 => kk H1 locs1 ⟨?_, ?_, h3⟩)
  · rw [← hset]; exact h1
  · rw [← hset]; exact h2
theorem r_ald (C : Cx p s m args c D tys A z base own Ts cc nL) (hw : Wd D A s.heap H locs ws) (q0 t0 : Nat) {a : Nat} {cA : ClassId} {n : Nat} {f : Nat → Int32} (ha : ws[q0]? = some (a, .inl (cA, n, .inl f))) (ht : tys[t0]? = some (cA, .int)) {i : Int32} (hin : vp_in i n) (hdg : decode cc pc = .ok (.iaload, 1))
    (kk : W p l e R s m args below meth c H locs cells slots Q (F0 m (pc + 1) ls (.int (f i.toNatClampNeg) :: rest))) : W p l e R s m args below meth c H locs cells slots Q (F0 m pc ls (.int i :: .ref a :: rest)) :=
  va_iald C.1.1 C.1.2.1 C.2.1 hw.1 q0 t0 ha ht hin hdg kk
theorem r_zld (C : Cx p s m args c D tys A z base own Ts cc nL) (hw : Wd D A s.heap H locs ws) (q0 t0 : Nat) {a : Nat} {cA : ClassId} {n : Nat} {f : Nat → Int32} (ha : ws[q0]? = some (a, .inl (cA, n, .inl f))) (ht : tys[t0]? = some (cA, .boolean)) {i : Int32} (hin : vp_in i n) (hdg : decode cc pc = .ok (.baload, 1))
    (kk : W p l e R s m args below meth c H locs cells slots Q (F0 m (pc + 1) ls (.int (f i.toNatClampNeg) :: rest))) : W p l e R s m args below meth c H locs cells slots Q (F0 m pc ls (.int i :: .ref a :: rest)) :=
  va_zald C.1.1 C.1.2.1 C.2.1 hw.1 q0 t0 ha ht hin hdg kk
theorem r_ast (C : Cx p s m args c D tys A z base own Ts cc nL) (hw : Wd D A s.heap H locs ws) (q0 t0 : Nat) {a : Nat} {cA : ClassId} {n : Nat} {f : Nat → Int32} (ha : ws[q0]? = some (a, .inl (cA, n, .inl f))) (ht : tys[t0]? = some (cA, .int)) {i x : Int32} (hin : vp_in i n) (hset : ws.set q0 (a, .inl (cA, n, .inl (upd f i.toNatClampNeg x))) = ws') (hdg : decode cc pc = .ok (.iastore, 1))
    (kk : ∀ (H1 : Heap) (locs1 : List Loc), Wd D A s.heap H1 locs1 ws' → W p l e R s m args below meth c H1 locs1 cells slots Q (F0 m (pc + 1) ls rest)) : W p l e R s m args below meth c H locs cells slots Q (F0 m pc ls (.int x :: .int i :: .ref a :: rest)) := by
  refine va_iast C.1.1 C.1.2.1 C.2.1 hw.1 hw.2.1 hw.2.2 q0 t0 ha ht hin hdg (fun H1 locs1 h1 h2 h3 => kk H1 locs1 ⟨?_, ?_, h3⟩)
  · rw [← hset]; exact h1
  · rw [← hset]; exact h2
theorem r_zst (C : Cx p s m args c D tys A z base own Ts cc nL) (hw : Wd D A s.heap H locs ws) (q0 t0 : Nat) {a : Nat} {cA : ClassId} {n : Nat} {f : Nat → Int32} (ha : ws[q0]? = some (a, .inl (cA, n, .inl f))) (ht : tys[t0]? = some (cA, .boolean)) {i x : Int32} (hin : vp_in i n) (hx1 : vp_nar .boolean x = x) (hset : ws.set q0 (a, .inl (cA, n, .inl (upd f i.toNatClampNeg x))) = ws') (hdg : decode cc pc = .ok (.bastore, 1))
    (kk : ∀ (H1 : Heap) (locs1 : List Loc), Wd D A s.heap H1 locs1 ws' → W p l e R s m args below meth c H1 locs1 cells slots Q (F0 m (pc + 1) ls rest)) : W p l e R s m args below meth c H locs cells slots Q (F0 m pc ls (.int x :: .int i :: .ref a :: rest)) := by
  refine va_zast C.1.1 C.1.2.1 C.2.1 hw.1 hw.2.1 hw.2.2 q0 t0 ha ht hin hdg (fun H1 locs1 h1 h2 h3 => kk H1 locs1 ⟨?_, ?_, h3⟩)
  · rw [← hset]; rw [hx1] at h1; exact h1
  · rw [← hset]; rw [hx1] at h2; exact h2
theorem r_alen (C : Cx p s m args c D tys A z base own Ts cc nL) (hw : Wd D A s.heap H locs ws) (q0 t0 : Nat) {a : Nat} {cA : ClassId} {x : vp_A} (ha : ws[q0]? = some (a, .inl (cA, x))) {ty : FieldType} (ht : tys[t0]? = some (cA, ty)) {v : Int32} (hv : Int32.ofNat x.1 = v) (hdg : decode cc pc = .ok (.arraylength, 1))
    (kk : W p l e R s m args below meth c H locs cells slots Q (F0 m (pc + 1) ls (.int v :: rest))) : W p l e R s m args below meth c H locs cells slots Q (F0 m pc ls (.ref a :: rest)) :=
  va_alen C.1.1 C.1.2.1 C.2.1 hw.1 q0 t0 ha ht hv hdg kk
theorem r_gets {n : String} {zk L index : Nat} {f : Nat → Int32} (C : Cx p s m args c D tys A z base own Ts cc nL) (hw : Wd D A s.heap H locs ws) (hz : Z1 n zk L f base s) (hlink : Cond.fieldLink own index RX4 n "[I" ∈ Ts) (hdg : decode cc pc = .ok (.getstatic index, 3))
    (kk : W p l e R s m args below meth c H locs cells slots Q (F0 m (pc + 3) ls (.ref zk :: rest))) : W p l e R s m args below meth c H locs cells slots Q (F0 m pc ls rest) :=
  va_gets C.1.1 C.1.2.1 (hz.1.narrow C.2.2.2.1) hw.2.2 C.1.2.2.2.1 (C.1.2.2.2.2 _ hlink) (fun _ h => h) hdg kk
theorem r_sld {n : String} {zk L : Nat} {f : Nat → Int32} (C : Cx p s m args c D tys A z base own Ts cc nL) (hw : Wd D A s.heap H locs ws) (hz : Z1 n zk L f base s) {i : Int32} (hin : vp_in i L) (hdg : decode cc pc = .ok (.iaload, 1))
    (kk : W p l e R s m args below meth c H locs cells slots Q (F0 m (pc + 1) ls (.int (f i.toNatClampNeg) :: rest))) : W p l e R s m args below meth c H locs cells slots Q (F0 m pc ls (.int i :: .ref zk :: rest)) :=
  va_ti C.1.1 C.1.2.1 (hz.2.1.narrow C.2.2.2.1) hw.2.2 hin rfl hdg kk
theorem r_slen {n : String} {zk L : Nat} {f : Nat → Int32} (C : Cx p s m args c D tys A z base own Ts cc nL) (hw : Wd D A s.heap H locs ws) (hz : Z1 n zk L f base s) (hdg : decode cc pc = .ok (.arraylength, 1))
    (kk : W p l e R s m args below meth c H locs cells slots Q (F0 m (pc + 1) ls (.int (Int32.ofNat L) :: rest))) : W p l e R s m args below meth c H locs cells slots Q (F0 m pc ls (.ref zk :: rest)) :=
  va_tlen C.1.1 C.1.2.1 (hz.2.1.narrow C.2.2.2.1) hw.2.2 rfl hdg kk
theorem r_max (C : Cx p s m args c D tys A z base own Ts cc nL) {index : Nat} (hml : ls.size = nL) (hlink : Cond.methodLink own index Lib.Math.max.name ∈ Ts) (hstat : Cond.static Lib.Math.max.name ∈ Ts) (hini : Cond.initialized "java/lang/Math" ∈ Ts) (hcode : Cond.code Lib.Math.max.name Lib.Math.max.code 2 (some .int) ∈ Ts)
    (hframes : 1 ≤ R.frames) (hlocals : (rest.map fun v => v.category).sum + 13 ≤ R.locals) (hc : cells ≤ R.cells) (hs : slots ≤ R.slots) {x y : Int32} (hdg : decode cc pc = .ok (.invokestatic index, 3))
    (kk : W p l e R s m args below meth c H locs cells slots Q (F0 m (pc + 3) ls (.int (if x < y then y else x) :: rest))) : W p l e R s m args below meth c H locs cells slots Q (F0 m pc ls (.int y :: .int x :: rest)) :=
  va_mmax C.1.1 C.1.2.1 (C.1.2.2.1.trans hml.symm) C.1.2.2.2.1 (C.1.2.2.2.2 _ hlink) (C.1.2.2.2.2 _ hstat) (C.1.2.2.2.2 _ hini) (C.1.2.2.2.2 _ hcode) hframes hlocals hc hs hdg kk
variable {y : MethodName} {wsc wsc' : List Cond} {rm : Room} {bytes : ByteArray} {maxL n index : Nat} {ret : Option FieldType} {Cn : String} {b : Addr} {As st0 : List Value} {r : Int32}
theorem r_callV (C : Cx p s m args c D tys A z base own Ts cc nL) (hw : Wd D A s.heap H locs ws) (hM : MI l D tys z base y wsc rm (.ref b :: As) ws r ws') (cw : CallW R s args own Cn index y bytes maxL ret wsc rm 0 0 n) (hrecv : ∃ cellB : Cell, H[b]? = some cellB ∧ cellB.vm.isStatics = false ∧ s.vm.findClass Cn = some cellB.cls)
    (hn : As.length = n) (hsize : ls.size = nL) (hstack : st0 = As.reverse ++ .ref b :: rest) (hW : (rest.map fun v => v.category).sum ≤ 8) (hdg : decode cc pc = .ok (.invokevirtual index, 3)) (hf : cells ≤ R.cells ∧ slots ≤ R.slots)
    (kk : ∀ (H1 : Heap) (locs1 : List Loc), Wd D A s.heap H1 locs1 ws' → W p l e R s m args below meth c H1 locs1 cells slots Q (F0 m (pc + 3) ls (.int r :: rest))) : W p l e R s m args below meth c H locs cells slots Q (F0 m pc ls st0) := by
  have hFc := hw.free C.2.2.1
  refine va_calli (va_runV (rest := rest) C.1 (hM H.size) cw ⟨Pre.blind, hrecv, fun U hU hW => Wd.pre C hw rfl U hU hW rfl⟩ rfl hn hsize hstack (lv_room hW) hdg hf) hw.2.2 (fun q _ h => hFc q h) hFc (fun r' u t H1 locs1 ht hvm hp hB hz1 hk1 hS => ?_)
  obtain ⟨rfl, rfl⟩ := hp
  obtain ⟨hP1, hK1, hD1⟩ := hB
  rw [ht] at hP1
  exact kk H1 locs1 ⟨hP1, hD1.weaken (fun k q _ h => hFc q.1 h), hS⟩
theorem r_callVv (C : Cx p s m args c D tys A z base own Ts cc nL) (hw : Wd D A s.heap H locs ws) (hM : MV l D tys z base y wsc rm (.ref b :: As) ws ws') (cw : CallW R s args own Cn index y bytes maxL ret wsc rm 0 0 n) (hrecv : ∃ cellB : Cell, H[b]? = some cellB ∧ cellB.vm.isStatics = false ∧ s.vm.findClass Cn = some cellB.cls)
    (hn : As.length = n) (hsize : ls.size = nL) (hstack : st0 = As.reverse ++ .ref b :: rest) (hW : (rest.map fun v => v.category).sum ≤ 8) (hdg : decode cc pc = .ok (.invokevirtual index, 3)) (hf : cells ≤ R.cells ∧ slots ≤ R.slots)
    (kk : ∀ (H1 : Heap) (locs1 : List Loc), Wd D A s.heap H1 locs1 ws' → W p l e R s m args below meth c H1 locs1 cells slots Q (F0 m (pc + 3) ls rest)) : W p l e R s m args below meth c H locs cells slots Q (F0 m pc ls st0) := by
  have hFc := hw.free C.2.2.1
  refine va_callv (va_runV (rest := rest) C.1 (hM H.size) cw ⟨Pre.blind, hrecv, fun U hU hW => Wd.pre C hw rfl U hU hW rfl⟩ rfl hn hsize hstack (lv_room hW) hdg hf) hw.2.2 (fun q _ h => hFc q h) hFc (fun u t H1 locs1 ht hvm hp hB hz1 hk1 hS => ?_)
  subst hp
  obtain ⟨hP1, hK1, hD1⟩ := hB
  rw [ht] at hP1
  exact kk H1 locs1 ⟨hP1, hD1.weaken (fun k q _ h => hFc q.1 h), hS⟩
theorem r_callS (C : Cx p s m args c D tys A z base own Ts cc nL) (hw : Wd D A s.heap H locs ws) (hM : MI l D tys z base y wsc rm As ws r ws') (cw : CallB R s args own index y bytes maxL ret wsc rm 0 0 n ∧ (Cond.static y).before args s = true)
    (hn : As.length = n) (hsize : ls.size = nL) (hstack : st0 = As.reverse ++ rest) (hW : (rest.map fun v => v.category).sum ≤ 8) (hdg : decode cc pc = .ok (.invokestatic index, 3)) (hf : cells ≤ R.cells ∧ slots ≤ R.slots)
    (kk : ∀ (H1 : Heap) (locs1 : List Loc), Wd D A s.heap H1 locs1 ws' → W p l e R s m args below meth c H1 locs1 cells slots Q (F0 m (pc + 3) ls (.int r :: rest))) : W p l e R s m args below meth c H locs cells slots Q (F0 m pc ls st0) := by
  have hFc := hw.free C.2.2.1
  refine va_calli (va_runS (rest := rest) C.1 (hM H.size) cw ⟨Pre.blind, fun U hU hW => Wd.pre C hw rfl U hU hW rfl⟩ rfl hn hsize hstack (lv_room hW) hdg hf) hw.2.2 (fun q _ h => hFc q h) hFc (fun r' u t H1 locs1 ht hvm hp hB hz1 hk1 hS => ?_)
  obtain ⟨rfl, rfl⟩ := hp
  obtain ⟨hP1, hK1, hD1⟩ := hB
  rw [ht] at hP1
  exact kk H1 locs1 ⟨hP1, hD1.weaken (fun k q _ h => hFc q.1 h), hS⟩
theorem r_callSv (C : Cx p s m args c D tys A z base own Ts cc nL) (hw : Wd D A s.heap H locs ws) (hM : MV l D tys z base y wsc rm As ws ws') (cw : CallB R s args own index y bytes maxL ret wsc rm 0 0 n ∧ (Cond.static y).before args s = true)
    (hn : As.length = n) (hsize : ls.size = nL) (hstack : st0 = As.reverse ++ rest) (hW : (rest.map fun v => v.category).sum ≤ 8) (hdg : decode cc pc = .ok (.invokestatic index, 3)) (hf : cells ≤ R.cells ∧ slots ≤ R.slots)
    (kk : ∀ (H1 : Heap) (locs1 : List Loc), Wd D A s.heap H1 locs1 ws' → W p l e R s m args below meth c H1 locs1 cells slots Q (F0 m (pc + 3) ls rest)) : W p l e R s m args below meth c H locs cells slots Q (F0 m pc ls st0) := by
  have hFc := hw.free C.2.2.1
  refine va_callv (va_runS (rest := rest) C.1 (hM H.size) cw ⟨Pre.blind, fun U hU hW => Wd.pre C hw rfl U hU hW rfl⟩ rfl hn hsize hstack (lv_room hW) hdg hf) hw.2.2 (fun q _ h => hFc q h) hFc (fun u t H1 locs1 ht hvm hp hB hz1 hk1 hS => ?_)
  subst hp
  obtain ⟨hP1, hK1, hD1⟩ := hB
  rw [ht] at hP1
  exact kk H1 locs1 ⟨hP1, hD1.weaken (fun k q _ h => hFc q.1 h), hS⟩
theorem r_iret {f : St → va_W} {v r : Int32} {σ s' : St} (hQ : ∀ (pc : Nat) (H : Heap) (locs : List Loc) (ls : Array Slot), decode cc pc = .ok (.ireturn, 1) → Wd D A s.heap H locs (f s') → W p l e R s m args below meth c H locs 0 0 Q (F0 m pc ls [.int r])) (h : some (v, σ) = some (r, s')) (hw : Wd D A s.heap H locs (f σ)) (hdg : decode cc pc = .ok (.ireturn, 1)) : W p l e R s m args below meth c H locs 0 0 Q (F0 m pc ls [.int v]) := by
  cases h
  exact hQ _ _ _ _ hdg hw
theorem r_iretP {v r : Int32} (hQ : ∀ (pc : Nat) (H : Heap) (locs : List Loc) (ls : Array Slot), decode cc pc = .ok (.ireturn, 1) → Wd D A s.heap H locs ws → W p l e R s m args below meth c H locs 0 0 Q (F0 m pc ls [.int r])) (h : some v = some r) (hw : Wd D A s.heap H locs ws) (hdg : decode cc pc = .ok (.ireturn, 1)) : W p l e R s m args below meth c H locs 0 0 Q (F0 m pc ls [.int v]) := by
  cases h
  exact hQ _ _ _ _ hdg hw
theorem r_zret {f : St → va_W} {v r : Int32} {σ s' : St} (hQ : ∀ (pc : Nat) (H : Heap) (locs : List Loc) (ls : Array Slot), decode cc pc = .ok (.ireturn, 1) → (r = 0 ∨ r = 1) → Wd D A s.heap H locs (f s') → W p l e R s m args below meth c H locs 0 0 Q (F0 m pc ls [.int r])) (hv : v = 0 ∨ v = 1) (h : some (v, σ) = some (r, s')) (hw : Wd D A s.heap H locs (f σ)) (hdg : decode cc pc = .ok (.ireturn, 1)) : W p l e R s m args below meth c H locs 0 0 Q (F0 m pc ls [.int v]) := by
  cases h
  exact hQ _ _ _ _ hdg hv hw
theorem r_zretP {v r : Int32} (hQ : ∀ (pc : Nat) (H : Heap) (locs : List Loc) (ls : Array Slot), decode cc pc = .ok (.ireturn, 1) → (r = 0 ∨ r = 1) → Wd D A s.heap H locs ws → W p l e R s m args below meth c H locs 0 0 Q (F0 m pc ls [.int r])) (hv : v = 0 ∨ v = 1) (h : some v = some r) (hw : Wd D A s.heap H locs ws) (hdg : decode cc pc = .ok (.ireturn, 1)) : W p l e R s m args below meth c H locs 0 0 Q (F0 m pc ls [.int v]) := by
  cases h
  exact hQ _ _ _ _ hdg hv hw
theorem r_vret {f : St → va_W} {σ s' : St} (hQ : ∀ (pc : Nat) (H : Heap) (locs : List Loc) (ls : Array Slot), decode cc pc = .ok (.return_, 1) → Wd D A s.heap H locs (f s') → W p l e R s m args below meth c H locs 0 0 Q (F0 m pc ls [])) (h : some σ = some s') (hw : Wd D A s.heap H locs (f σ)) (hdg : decode cc pc = .ok (.return_, 1)) : W p l e R s m args below meth c H locs 0 0 Q (F0 m pc ls []) := by
  cases h
  exact hQ _ _ _ _ hdg hw
theorem r_tabIn {dflt lo hi : Int} {offs : Array Int} {len : Nat} {x k : Int32} {off : Int} {tgt : Nat} (C : Cx p s m args c D tys A z base own Ts cc nL) (hc : x = k) (hdg : decode cc pc = .ok (.tableswitch dflt lo hi offs, len)) (h1 : ¬ k.toInt < lo) (h2 : ¬ hi < k.toInt) (ho : offs[(k.toInt - lo).toNat]? = some off) (ht : (pc : Int) + off = (tgt : Int))
    (kk : W p l e R s m args below meth c H locs cells slots Q (F0 m tgt ls rest)) : W p l e R s m args below meth c H locs cells slots Q (F0 m pc ls (.int x :: rest)) := by
  subst hc
  exact lv_tableIn C.1.1 C.1.2.1 hdg h1 h2 ho ht kk
end BASE1
section BASE2
variable {l : Launch} {D : va_G} {tys : List (ClassId × FieldType)} {z : Nat → Nat} {base : Nat} {own : String} {y : MethodName} {wsc wsc' : List Cond} {rm : Room} {cc : ByteArray} {maxL : Nat} {vs : List Value} {ws ws' : va_W} {r : Int32}
theorem MI.ofI (hy : plainName y.cls = true) (ho : y.cls = own) (hw0 : wsc = Cond.code y cc maxL (some .int) :: wsc') (hlen : (lg_sl vs).length ≤ maxL)
    (body : ∀ (p : Program) (e : Env) (s : State) (m : MethodId) (args : Array Value) (below : List Frame) (meth : Method) (c : Code) (A : Nat → Prop) (Q : State → Prop) (ls : Array Slot), Cx p s m args c D tys A z base own wsc cc maxL → lv_has ls maxL (lv_args 0 vs) → Wd D A s.heap s.heap [] ws →
      (∀ (pc : Nat) (H : Heap) (locs : List Loc) (ls : Array Slot), decode cc pc = .ok (.ireturn, 1) → Wd D A s.heap H locs ws' → W p l e rm s m args below meth c H locs 0 0 Q (F0 m pc ls [.int r])) → W p l e rm s m args below meth c s.heap [] 0 0 Q (F0 m 0 ls [])) : MI l D tys z base y wsc rm vs ws r ws' := by
  intro sz
  refine Met.ofW (cc := cc) (maxL := maxL) (ret := some .int) hy hw0 ?_
  intro p e s m args below meth c s₁ B hml hv
  obtain ⟨hargs, hsz, hP, hK, hD0, hbs, hZ⟩ := hv
  subst hsz
  have hx := B.exec
  have hb := B.bytes
  have hr := B.returns
  have hts := atoms_spec (ws := wsc) B.pre
  have hown : s.vm.findClass own = some m.cls := by rw [← ho]; exact findClass_of_methodNamed B.named
  have hlocks := B.notSynchronized
  have hD := hD0.self (sz := s.heap.size)
  have hl := lv_entry vs (n := maxL) hlen
  rw [show entryFrame m args maxL = F0 m 0 ((lg_sl vs ++ List.replicate (maxL - (lg_sl vs).length) Slot.unset).toArray) [] from by rw [hargs]; exact lg_entry_eq m vs maxL]
  refine body p e s m args below meth c (va_A ws s.heap.size) _ _ ⟨⟨hx, hb, hml, hown, hts⟩, hK, fun q h => Or.inr h, ?_, hbs, hZ⟩ hl ⟨hP, hD, va_S.rf⟩ ?_
  · intro q h
    rcases h with ⟨k, e, h⟩ | h
    · exact hD0.2 k _ h
    · exact Nat.le_trans hbs h
  · intro pc H locs ls hd hw
    exact W.iret hx hb hr (fun t ht hW => ⟨⟨r, ws', rfl, ⟨rfl, rfl⟩, by rw [ht]; exact hw.1, va_K.moved hW.alike hK, hw.2.1⟩, hw.2.2.F ht⟩) hw.2.2.2.2 hd
theorem MI.ofZ (hy : plainName y.cls = true) (ho : y.cls = own) (hw0 : wsc = Cond.code y cc maxL (some .boolean) :: wsc') (hlen : (lg_sl vs).length ≤ maxL)
    (body : ∀ (p : Program) (e : Env) (s : State) (m : MethodId) (args : Array Value) (below : List Frame) (meth : Method) (c : Code) (A : Nat → Prop) (Q : State → Prop) (ls : Array Slot), Cx p s m args c D tys A z base own wsc cc maxL → lv_has ls maxL (lv_args 0 vs) → Wd D A s.heap s.heap [] ws →
      (∀ (pc : Nat) (H : Heap) (locs : List Loc) (ls : Array Slot), decode cc pc = .ok (.ireturn, 1) → (r = 0 ∨ r = 1) → Wd D A s.heap H locs ws' → W p l e rm s m args below meth c H locs 0 0 Q (F0 m pc ls [.int r])) → W p l e rm s m args below meth c s.heap [] 0 0 Q (F0 m 0 ls [])) : MI l D tys z base y wsc rm vs ws r ws' := by
  intro sz
  refine Met.ofW (cc := cc) (maxL := maxL) (ret := some .boolean) hy hw0 ?_
  intro p e s m args below meth c s₁ B hml hv
  obtain ⟨hargs, hsz, hP, hK, hD0, hbs, hZ⟩ := hv
  subst hsz
  have hx := B.exec
  have hb := B.bytes
  have hr := B.returns
  have hts := atoms_spec (ws := wsc) B.pre
  have hown : s.vm.findClass own = some m.cls := by rw [← ho]; exact findClass_of_methodNamed B.named
  have hlocks := B.notSynchronized
  have hD := hD0.self (sz := s.heap.size)
  have hl := lv_entry vs (n := maxL) hlen
  rw [show entryFrame m args maxL = F0 m 0 ((lg_sl vs ++ List.replicate (maxL - (lg_sl vs).length) Slot.unset).toArray) [] from by rw [hargs]; exact lg_entry_eq m vs maxL]
  refine body p e s m args below meth c (va_A ws s.heap.size) _ _ ⟨⟨hx, hb, hml, hown, hts⟩, hK, fun q h => Or.inr h, ?_, hbs, hZ⟩ hl ⟨hP, hD, va_S.rf⟩ ?_
  · intro q h
    rcases h with ⟨k, e, h⟩ | h
    · exact hD0.2 k _ h
    · exact Nat.le_trans hbs h
  · intro pc H locs ls hd h01 hw
    exact W.zret hx hb hr (nar01 h01) (fun t ht hW => ⟨⟨r, ws', rfl, ⟨rfl, rfl⟩, by rw [ht]; exact hw.1, va_K.moved hW.alike hK, hw.2.1⟩, hw.2.2.F ht⟩) hw.2.2.2.2 hd
theorem MV.of (hy : plainName y.cls = true) (ho : y.cls = own) (hw0 : wsc = Cond.code y cc maxL none :: wsc') (hlen : (lg_sl vs).length ≤ maxL)
    (body : ∀ (p : Program) (e : Env) (s : State) (m : MethodId) (args : Array Value) (below : List Frame) (meth : Method) (c : Code) (A : Nat → Prop) (Q : State → Prop) (ls : Array Slot), Cx p s m args c D tys A z base own wsc cc maxL → lv_has ls maxL (lv_args 0 vs) → Wd D A s.heap s.heap [] ws →
      (∀ (pc : Nat) (H : Heap) (locs : List Loc) (ls : Array Slot), decode cc pc = .ok (.return_, 1) → Wd D A s.heap H locs ws' → W p l e rm s m args below meth c H locs 0 0 Q (F0 m pc ls [])) → W p l e rm s m args below meth c s.heap [] 0 0 Q (F0 m 0 ls [])) : MV l D tys z base y wsc rm vs ws ws' := by
  intro sz
  refine Met.ofW (cc := cc) (maxL := maxL) (ret := none) hy hw0 ?_
  intro p e s m args below meth c s₁ B hml hv
  obtain ⟨hargs, hsz, hP, hK, hD0, hbs, hZ⟩ := hv
  subst hsz
  have hx := B.exec
  have hb := B.bytes
  have hr := B.returns
  have hts := atoms_spec (ws := wsc) B.pre
  have hown : s.vm.findClass own = some m.cls := by rw [← ho]; exact findClass_of_methodNamed B.named
  have hlocks := B.notSynchronized
  have hD := hD0.self (sz := s.heap.size)
  have hl := lv_entry vs (n := maxL) hlen
  rw [show entryFrame m args maxL = F0 m 0 ((lg_sl vs ++ List.replicate (maxL - (lg_sl vs).length) Slot.unset).toArray) [] from by rw [hargs]; exact lg_entry_eq m vs maxL]
  refine body p e s m args below meth c (va_A ws s.heap.size) _ _ ⟨⟨hx, hb, hml, hown, hts⟩, hK, fun q h => Or.inr h, ?_, hbs, hZ⟩ hl ⟨hP, hD, va_S.rf⟩ ?_
  · intro q h
    rcases h with ⟨k, e, h⟩ | h
    · exact hD0.2 k _ h
    · exact Nat.le_trans hbs h
  · intro pc H locs ls hd hw
    exact W.vret hx hb hr (fun t ht hW => ⟨⟨ws', rfl, rfl, by rw [ht]; exact hw.1, va_K.moved hW.alike hK, hw.2.1⟩, hw.2.2.F ht⟩) hw.2.2.2.2 hd
end BASE2
