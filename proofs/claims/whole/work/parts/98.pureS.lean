/-! the calls method, handler, instruction -/
theorem placeOf_loop {n M m s len cnt hc : Nat} {B : Nat → Nat} {σ τ : St} (h : Mt n M m s len cnt hc B σ τ) {k : Nat} (hk : k < cnt) : ∀ (j i m1 : Nat), i + j = k → j < m1 → F_X1_placeOf_26 m1 (nI m) (nI k) (nI (pos B s i)) (nI i) σ = some (nI (pos B s k - s)) := by
  have hcnt := h.cnt
  have hh := h
  obtain ⟨a1, a2, a3, a4, a5, a6, a7, a8, a9, a10, a11, a12, a13, a14, a15, a16, a17, a18, a19, a20, a21⟩ := hh
  intro j
  induction j with
  | zero =>
    intro i m1 hi hm1
    obtain ⟨m1, rfl⟩ : ∃ m', m1 = m' + 1 := ⟨m1 - 1, by omega⟩
    have hi' : i = k := by omega
    subst hi'
    have g := h.at hk
    rw [F_X1_placeOf_26, if_pos (nI_le (Nat.le_refl _) (by omega)), ix_in (by omega) (by omega), nI_clamp (by omega), a8.1, pk_sub (by omega)]
  | succ j ih =>
    intro i m1 hi hm1
    obtain ⟨m1, rfl⟩ : ∃ m', m1 = m' + 1 := ⟨m1 - 1, by omega⟩
    have g := h.at (i := i) (by omega)
    rw [F_X1_placeOf_26, if_le (by omega) (by omega), if_neg (by omega), byteAt_in a3 a19 a20 (by have := wid_pos _ g.2.2.1; omega), b1_some, len_X σ _ g.2.2.1, b1_some, nm_eq, nm_eq, nI_add, show nI i + 1 = nI (i + 1) from nI_1 i]
    exact ih (i + 1) m1 (by omega) (by omega)
theorem counted_skip {n M m s len cnt hc : Nat} {B : Nat → Nat} {σ τ : St} (h : Mt n M m s len cnt hc B σ τ) (t x3 : Int32) : ∀ (d q m2 : Nat), q + d ≤ len → (∀ q', q ≤ q' → q' < q + d → τ 3 (s + q') = 0) → F_X8_counted_5 (m2 + d) (nI m) t x3 (nI q) τ = F_X8_counted_5 m2 (nI m) t x3 (nI (q + d)) τ := by
  obtain ⟨a1, a2, a3, a4, a5, a6, a7, a8, a9, -⟩ := h
  intro d
  induction d with
  | zero => intro q m2 _ _; rfl
  | succ d ih =>
    intro q m2 hq hz
    rw [show m2 + (d + 1) = (m2 + d) + 1 by omega, F_X8_counted_5, ix_in (by omega) (by omega), nI_clamp (by omega), a9.2, if_le (by omega) (by omega), if_neg (by omega), ix_in (by omega) (by omega), a8.2, nI_add, ix_in (by omega) (by omega), nI_clamp (by omega), hz q (by omega) (by omega), if_pos rfl]
    unfold F_X8_counted_44
    rw [nm_eq, show nI q + 1 = nI (q + 1) from nI_1 q, ih (q + 1) m2 (by omega) (fun q' h1 h2 => hz q' (by omega) (by omega)), show q + 1 + d = q + (d + 1) by omega]
theorem counted_step {n M m s len cnt hc i : Nat} {B : Nat → Nat} {σ τ : St} (h : Mt n M m s len cnt hc B σ τ) (t : Int32) (hi : i < cnt) (m3 : Nat) : F_X8_counted_5 (m3 + (wid (B (pos B s i)) - 1) + 1) (nI m) t (nI i) (nI (pos B s i - s)) τ = if nI i = t then some (nI (pos B s i - s)) else F_X8_counted_5 m3 (nI m) t (nI (i + 1)) (nI (pos B s (i + 1) - s)) τ := by
  have hh := h
  obtain ⟨g1, g2, g3, g4, g5⟩ := h.at hi
  have hw := wid_pos _ g3
  obtain ⟨a1, a2, a3, a4, a5, a6, a7, a8, a9, -⟩ := hh
  have hn : pos B s (i + 1) = pos B s i + wid (B (pos B s i)) := rfl
  rw [F_X8_counted_5, ix_in (by omega) (by omega), nI_clamp (by omega), a9.2, if_le (by omega) (by omega), if_neg (by omega), ix_in (by omega) (by omega), a8.2, nI_add, ix_in (by omega) (by omega), nI_clamp (by omega), show s + (pos B s i - s) = pos B s i by omega, if_neg g4]
  unfold F_X8_counted_44
  rw [nm_eq, nm_eq, show nI i + 1 = nI (i + 1) from nI_1 i, show nI (pos B s i - s) + 1 = nI (pos B s i - s + 1) from nI_1 _, counted_skip h t (nI (i + 1)) (wid (B (pos B s i)) - 1) (pos B s i - s + 1) m3 (by omega) (fun q' h1 h2 => g5 (s + q') (by omega) (by omega)), show pos B s i - s + 1 + (wid (B (pos B s i)) - 1) = pos B s (i + 1) - s by omega]
theorem counted_none {n M m s len cnt hc : Nat} {B : Nat → Nat} {σ τ : St} (h : Mt n M m s len cnt hc B σ τ) (t : Int32) (ht : ∀ i, i < cnt → ¬ nI i = t) : ∀ (j i m2 : Nat), i + j = cnt → s + len < m2 + pos B s i → F_X8_counted_5 m2 (nI m) t (nI i) (nI (pos B s i - s)) τ = some (if t = -1 then nI cnt else -1) := by
  have hh := h
  obtain ⟨a1, a2, a3, a4, a5, a6, a7, a8, a9, a10, a11, a12, a13, -⟩ := hh
  intro j
  induction j with
  | zero =>
    intro i m2 hi hm2
    have hi' : i = cnt := by omega
    subst hi'
    obtain ⟨m2, rfl⟩ : ∃ m', m2 = m' + 1 := ⟨m2 - 1, by omega⟩
    rw [F_X8_counted_5, ix_in (by omega) (by omega), nI_clamp (by omega), a9.2, if_le (by omega) (by omega), if_pos (by omega)]
    by_cases c : t = -1
    · rw [if_pos c, if_pos c]
    · rw [if_neg c, if_neg c]
  | succ j ih =>
    intro i m2 hi hm2
    have g := h.at (i := i) (by omega)
    have hw := wid_pos _ g.2.2.1
    have hn : pos B s (i + 1) = pos B s i + wid (B (pos B s i)) := rfl
    obtain ⟨m3, e3⟩ : ∃ m3, m2 = m3 + (wid (B (pos B s i)) - 1) + 1 := ⟨m2 - wid (B (pos B s i)), by omega⟩
    rw [e3, counted_step h t (by omega), if_neg (ht i (by omega))]
    exact ih (i + 1) m3 (by omega) (by omega)
theorem counted_at {n M m s len cnt hc k : Nat} {B : Nat → Nat} {σ τ : St} (h : Mt n M m s len cnt hc B σ τ) (hk : k < cnt) : ∀ (j i m2 : Nat), i + j = k → s + len < m2 + pos B s i → F_X8_counted_5 m2 (nI m) (nI k) (nI i) (nI (pos B s i - s)) τ = some (nI (pos B s k - s)) := by
  have hcnt := h.cnt
  intro j
  induction j with
  | zero =>
    intro i m2 hi hm2
    have hi' : i = k := by omega
    subst hi'
    have g := h.at hk
    have hw := wid_pos _ g.2.2.1
    obtain ⟨m3, e3⟩ : ∃ m3, m2 = m3 + (wid (B (pos B s i)) - 1) + 1 := ⟨m2 - wid (B (pos B s i)), by omega⟩
    rw [e3, counted_step h _ hk, if_pos rfl]
  | succ j ih =>
    intro i m2 hi hm2
    have g := h.at (i := i) (by omega)
    have hw := wid_pos _ g.2.2.1
    have hn : pos B s (i + 1) = pos B s i + wid (B (pos B s i)) := rfl
    obtain ⟨m3, e3⟩ : ∃ m3, m2 = m3 + (wid (B (pos B s i)) - 1) + 1 := ⟨m2 - wid (B (pos B s i)), by omega⟩
    rw [e3, counted_step h _ (by omega), if_eq (by omega) (by omega), if_neg (by omega)]
    exact ih (i + 1) m3 (by omega) (by omega)
theorem ite2 {α : Type} {c : Prop} [Decidable c] {a b a' b' : α} {P : α → α → Prop} (h1 : c → P a a') (h2 : ¬ c → P b b') : P (if c then a else b) (if c then a' else b') := by
  by_cases h : c
  · rw [if_pos h, if_pos h]; exact h1 h
  · rw [if_neg h, if_neg h]; exact h2 h
/-- the same answer on both sides -/
def Same (x y : Option Int32) : Prop := ∃ r : Int32, x = some r ∧ y = some r
theorem Same.rf (r : Int32) : Same (some r) (some r) := ⟨r, rfl, rfl⟩
theorem method_same {σ τ : St} (x1 x2 x3 : Int32) (hR : Rel σ τ) : ∃ r : Int32, F_X7_method x1 x2 x3 σ = some r ∧ F_X8_method x1 x2 x3 τ = some r := by
  have hfu : fu = 9000 := rfl
  unfold F_X7_method F_X3_fact F_X8_method
  rw [b1_ret]
  rcases meth_dec x1 hR with ⟨h1, h2⟩ | ⟨n, B, C, M, pt, pm, m, hI, hm, rfl, h1, h2⟩
  · rw [h1, h2, b1_some, b1_some, if_pos rfl, if_pos rfl]
    exact ⟨-1, rfl, rfl⟩
  · obtain ⟨s, len, cnt, hc, hs1, hs2, hMt⟩ := img_mt hI hm
    have hcnt := hMt.cnt
    obtain ⟨-, -, ⟨-, hM, h4, h15, hMs, -⟩, -⟩ := hI
    obtain ⟨⟨P, L, A1, A2, A3, A4, A5, A6, A7, A8, A9, A10, A11⟩, -⟩ := hMs.2 m hm
    have hMt' := hMt
    obtain ⟨a1, a2, a3, a4, a5, a6, a7, a8, a9, a10, a11, a12, a13, a14, a15, a16, a17, a18, a19, a20, a21⟩ := hMt'
    rw [h1, h2, b1_some, b1_some, if_neg (show ¬ (1 : Int32) = 0 by decide), if_neg (show ¬ (1 : Int32) = 0 by decide)]
    simp only [ix_in (show m < 64 by omega) (show 64 < 2 ^ 31 by omega), nI_clamp (show m < 2 ^ 31 by omega), b1_ret]
    refine ite2 (P := Same) (fun _ => ?_) (fun _ => ite2 (P := Same) (fun _ => ?_) (fun _ => ite2 (P := Same) (fun _ => ?_) (fun _ => ite2 (P := Same) (fun _ => ?_) (fun _ => ite2 (P := Same) (fun _ => ?_) (fun _ => ite2 (P := Same) (fun _ => ?_) (fun _ => ite2 (P := Same) (fun _ => ?_) (fun _ => ite2 (P := Same) (fun _ => ?_) (fun _ => ite2 (P := Same) (fun _ => ?_) (fun _ => ite2 (P := Same) (fun _ => ?_) (fun _ => Same.rf _))))))))))
    · rw [A1]; exact Same.rf _
    · rw [A4, A5]; exact Same.rf _
    · by_cases cx : x3 < 0
      · unfold F_X3_parameterType
        rw [if_pos cx, if_pos cx]
        exact Same.rf _
      · obtain ⟨j, hj, ej⟩ := nI_of cx
        subst ej
        rw [if_neg cx, A5, if_le (by omega) hj]
        by_cases cP : P ≤ j
        · unfold F_X3_parameterType
          rw [if_neg cx, ix_in (by omega) (by omega), nI_clamp (by omega), A4, if_le (by omega) hj, if_pos cP, if_pos cP]
          exact Same.rf _
        · rw [param_in (by omega) A3 A4 (by omega), if_neg cP, show (8 : Int32) = nI 8 from rfl, pk_mul, nI_add, ix_in (by omega) (by omega), nI_clamp (by omega), A6 j (by omega)]
          exact Same.rf _
    · rw [A7]; exact Same.rf _
    · rw [A9, A10]; exact Same.rf _
    · rw [A11]; exact Same.rf _
    · rw [length_X (by omega), a9.1, a9.2]; exact Same.rf _
    · have z := counted_none hMt (-1) (fun i hi => ne_m1 (by omega)) cnt 0 fu (by omega) (by omega)
      have e0 : pos B s 0 - s = 0 := Nat.sub_self s
      rw [e0] at z
      have z' : F_X8_counted_5 fu (nI m) (-1) 0 0 τ = _ := z
      unfold F_X8_counted
      rw [size1_X (by omega), a10, z', if_pos rfl]
      exact Same.rf _
    · by_cases cx : x3 < 0
      · unfold F_X1_placeOf
        rw [if_pos cx, if_pos cx]
        exact Same.rf _
      · obtain ⟨k, hk, ek⟩ := nI_of cx
        subst ek
        have e0 : pos B s 0 - s = 0 := Nat.sub_self s
        unfold F_X1_placeOf F_X8_counted
        rw [if_neg cx, if_neg cx, size1_X (by omega), b1_some, a10, if_lt hk (by omega), ix_in (by omega) (by omega), nm_eq, nI_clamp (by omega), a8.1]
        by_cases ck : k < cnt
        · have z := counted_at hMt ck k 0 fu (by omega) (by omega)
          rw [e0] at z
          have z' : F_X8_counted_5 fu (nI m) (nI k) 0 0 τ = _ := z
          have y : F_X1_placeOf_26 fu (nI m) (nI k) (nI s) 0 σ = _ := placeOf_loop hMt ck k 0 fu (by omega) (by omega)
          rw [if_pos ck, y, z']
          exact Same.rf _
        · have z := counted_none hMt (nI k) (fun i hi e => by have := (nI_eq (by omega) hk).mp e; omega) cnt 0 fu (by omega) (by omega)
          rw [e0] at z
          have z' : F_X8_counted_5 fu (nI m) (nI k) 0 0 τ = _ := z
          rw [if_neg ck, z', if_neg (ne_m1 hk)]
          exact Same.rf _
    · rw [size2_X (by omega), a12.1, a12.2]; exact Same.rf _
theorem handler_same {σ τ : St} (x1 x2 x3 : Int32) (hR : Rel σ τ) : ∃ r : Int32, F_X7_handler x1 x2 x3 σ = some r ∧ F_X8_handler x1 x2 x3 τ = some r := by
  unfold F_X7_handler F_X3_handlerFact F_X8_handler
  rw [b1_ret]
  rcases meth_dec x1 hR with ⟨h1, h2⟩ | ⟨n, B, C, M, pt, pm, m, hI, hm, rfl, h1, h2⟩
  · rw [h1, h2, b1_some, b1_some, if_pos rfl, if_pos rfl]
    exact ⟨-1, rfl, rfl⟩
  · obtain ⟨s, len, cnt, hc, hs1, hs2, hMt⟩ := img_mt hI hm
    obtain ⟨a1, a2, a3, a4, a5, a6, a7, a8, a9, a10, a11, a12, a13, a14, a15, a16, a17, a18, a19, a20, a21⟩ := hMt
    have hBX : ∀ k, k < n → B k < 256 := fun k hk => (a20 k hk).1
    rw [h1, h2, b1_some, b1_some, if_neg (show ¬ (1 : Int32) = 0 by decide), if_neg (show ¬ (1 : Int32) = 0 by decide), b1_ret]
    unfold F_X2_fact
    refine ite2 (P := Same) (fun _ => Same.rf _) (fun cx => ?_)
    obtain ⟨k, hk, ek⟩ := nI_of cx
    subst ek
    simp only [ix_in (show m < 64 by omega) (show 64 < 2 ^ 31 by omega), nI_clamp (show m < 2 ^ 31 by omega)]
    rw [size2_X (by omega), b1_some, a12.1, a12.2, if_lt hk (by omega), if_lt hk (by omega)]
    refine ite2 (P := Same) (fun ck => ?_) (fun _ => Same.rf _)
    rw [a11.1, a11.2, show (7 : Int32) = nI 7 from rfl, pk_mul, pk_mul, nI_add, nI_add, Nat.mul_comm k 7, nm_eq, nm_eq]
    generalize hv : s + len + 1 + 7 * k = v
    simp only [b1_ret, show nI v + 2 = nI (v + 2) from nI_add v 2, show nI v + 4 = nI (v + 4) from nI_add v 4, show nI v + 5 = nI (v + 5) from nI_add v 5]
    refine ite2 (P := Same) (fun _ => ?_) (fun _ => ite2 (P := Same) (fun _ => ?_) (fun _ => ite2 (P := Same) (fun _ => ?_) (fun _ => ite2 (P := Same) (fun _ => ?_) (fun _ => Same.rf _))))
    · rw [val2_X a3 a19 a20 (by omega), two_M a3 hBX a21 (by omega)]; exact Same.rf _
    · rw [val2_X a3 a19 a20 (by omega), two_M a3 hBX a21 (by omega)]; exact Same.rf _
    · rw [byteAt_in a3 a19 a20 (by omega), ix_in (by omega) (by omega), nI_clamp (by omega), a21 (v + 4) (by omega)]; exact Same.rf _
    · rw [val2_X a3 a19 a20 (by omega), two_M a3 hBX a21 (by omega)]; exact Same.rf _
