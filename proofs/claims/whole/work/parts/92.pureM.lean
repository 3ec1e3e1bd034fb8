/-! all slots; values of two bytes; where instructions begin -/
theorem up_le {f : Nat → Nat} {N : Nat} (h : ∀ d, d < N → f d ≤ f (d + 1)) : ∀ j d, d + j ≤ N → f d ≤ f (d + j) := by
  intro j
  induction j with
  | zero => intro d _; exact Nat.le_refl _
  | succ j ih =>
    intro d hd
    have a := ih d (by omega)
    have b := h (d + j) (by omega)
    rw [show d + (j + 1) = d + j + 1 by omega]
    omega
theorem img_pm {n C M : Nat} {B pt pm : Nat → Nat} {σ τ : St} (hI : Img n B C M pt pm σ τ) {d : Nat} (hd : d ≤ M) : pm d ≤ n ∧ pm 0 ≤ pm d := by
  obtain ⟨-, -, ⟨-, -, -, -, hMs, -, hn⟩, -⟩ := hI
  have a := up_le (f := pm) (N := M) (fun d h => Nat.le_of_lt (hMs.1 d h)) (M - d) d (by omega)
  have b := up_le (f := pm) (N := M) (fun d h => Nat.le_of_lt (hMs.1 d h)) d 0 (by omega)
  rw [show d + (M - d) = M by omega] at a
  rw [show 0 + d = d by omega] at b
  omega
theorem img_pt {n C M : Nat} {B pt pm : Nat → Nat} {σ τ : St} (hI : Img n B C M pt pm σ τ) {d : Nat} (hd : d ≤ C) : pt d ≤ pt C ∧ pt d ≤ n ∧ n ≤ 8000 := by
  have h1 := (img_pm hI (Nat.zero_le M)).1
  obtain ⟨⟨hn, -⟩, ⟨-, hT, -⟩, ⟨-, -, -, -, -, hp, -⟩, -⟩ := hI
  have a := up_le (f := pt) (N := C) hT.2.2.2.2.1 (C - d) d (by omega)
  rw [show d + (C - d) = C by omega] at a
  omega
theorem cd_m1 {w : Option Nat} (h : ∀ q, w = some q → q < 2 ^ 31) : cd w = -1 ↔ w = none := by
  cases w with
  | none => exact ⟨fun _ => rfl, fun _ => rfl⟩
  | some q => exact ⟨fun z => absurd z (ne_m1 (h q rfl)), fun z => absurd z (by simp)⟩
theorem slots_all {n C M : Nat} {B pt pm : Nat → Nat} {σ τ : St} (hI : Img n B C M pt pm σ τ) (h6 : τ 0 6 = -1) :
    ∀ (j c m1 m2 : Nat) (w : Option Nat), c + j = C → j < m1 → 16 * j < m2 → (∀ q, w = some q → q ≤ pt c) →
      (w = none → ∀ d, d < c → ∀ k', k' < 16 → σ 12 (16 * d + k') = -1 ∨ ∃ b, b < M ∧ σ 12 (16 * d + k') = nI b) →
      ∃ w' : Option Nat, F_X8_checkSlots_2 m2 (nI (16 * c)) (Wn w τ) = some (Wn w' τ) ∧ (w = none → F_X3_misfit_2 m1 (nI c) σ = if w' = none then F_X3_misfit_35 fu 0 σ else some (cd w')) ∧ (∀ q, w = some q → w' = some q) ∧ (∀ q, w' = some q → q ≤ pt C) := by
  have hfu : fu = 9000 := rfl
  have hT := hI.2.1.2.1
  obtain ⟨t3, t8, tC, -, tp, tcls⟩ := hT
  intro j
  induction j with
  | zero =>
    intro c m1 m2 w hc hm1 hm2 hw hG
    obtain ⟨m1, rfl⟩ : ∃ m', m1 = m' + 1 := ⟨m1 - 1, by omega⟩
    obtain ⟨m2, rfl⟩ : ∃ m', m2 = m' + 1 := ⟨m2 - 1, by omega⟩
    have w8 : Wn w τ 0 8 = nI C := by rw [Wn_0 (by decide)]; exact t8
    refine ⟨w, ?_, ?_, fun q h => h, fun q h => by have := hw q h; rw [show C = c by omega]; exact this⟩
    · rw [F_X8_checkSlots_2, w8, show (16 : Int32) = nI 16 from rfl, pk_mul, if_le (by omega) (by omega), if_pos (by omega)]
    · intro hn
      rw [F_X3_misfit_2, show F_X0_size σ = some (σ 3 0) from rfl, b1_some, t3, if_le (by omega) (by omega), if_pos (by omega), if_pos hn]
  | succ j ih =>
    intro c m1 m2 w hc hm1 hm2 hw hG
    obtain ⟨m1, rfl⟩ : ∃ m', m1 = m' + 1 := ⟨m1 - 1, by omega⟩
    obtain ⟨m2, rfl⟩ : ∃ m', m2 = m' + 16 := ⟨m2 - 16, by omega⟩
    obtain ⟨e, f, hU, -, -, -, -, -, hS⟩ := tcls c (by omega)
    have hp1 := img_pt hI (d := c + 1) (by omega)
    have hpc := tp c (by omega)
    obtain ⟨w1, y1, y2, y3, y4, y5⟩ := slots_c hI h6 (c := c) (by omega) (by omega) 16 0 fu m2 w rfl (by omega) (fun q h => ⟨by have := hw q h; omega, fun k' t _ h2 h3 h4 => by
      have := hw q h
      rcases (hS.1 k' h2).2.2 with ⟨z, -⟩ | ⟨-, t', b, z, z1, z2, -⟩
      · rw [h4] at z; exact absurd z (ne_m1 h3)
      · rw [h4] at z
        have := (nI_eq h3 (by omega)).mp z
        omega⟩) hG
    have y2' : w = none → F_X3_misfitSlot_2 fu (nI c) 0 σ = some (cd w1) := y2
    have hG2 : w1 = none → ∀ d, d < c + 1 → ∀ k', k' < 16 → σ 12 (16 * d + k') = -1 ∨ ∃ b, b < M ∧ σ 12 (16 * d + k') = nI b := by
      intro h d hd k' hk'
      have hn : w = none := by
        cases w with
        | none => rfl
        | some q => have := y3 q rfl; rw [this] at h; exact absurd h (by simp)
      rcases Nat.lt_or_ge d c with z | z
      · exact hG hn d z k' hk'
      · rw [show d = c by omega]
        rcases (hS.1 k' hk').2.2 with ⟨-, z⟩ | ⟨-, t', b, z, z1, z2, -⟩
        · rcases hU with ⟨-, rfl⟩ | ⟨u, hu, -, rfl⟩
          · exact Or.inl z
          · rw [z]
            exact hG hn u hu k' hk'
        · exact Or.inr (y5 h k' (Nat.zero_le _) hk' (by rw [z]; exact ne_m1 (by omega)))
    obtain ⟨w', z1, z2, z3, z4⟩ := ih (c + 1) m1 m2 w1 (by omega) (by omega) (by omega) y4 hG2
    refine ⟨w', ?_, ?_, fun q h => z3 q (y3 q h), z4⟩
    · rw [show 16 * c = 16 * c + 0 from rfl, y1, ← z1, show 16 * (c + 1) = 16 * c + 16 by omega]
    · intro hn
      rw [F_X3_misfit_2, show F_X0_size σ = some (σ 3 0) from rfl, b1_some, t3, if_le (by omega) (by omega), if_neg (by omega)]
      unfold F_X3_misfitSlot
      rw [y2' hn, b1_some, nm_eq, show nI c + 1 = nI (c + 1) from nI_1 c]
      by_cases c1 : w1 = none
      · rw [if_pos ((cd_m1 (fun q h => by have := y4 q h; omega)).mpr c1)]
        exact z2 c1
      · rw [if_neg (fun z => c1 ((cd_m1 (fun q h => by have := y4 q h; omega)).mp z))]
        cases w1 with
        | none => exact absurd rfl c1
        | some q =>
          rw [z3 q rfl, if_neg (by simp)]
/-- two bytes -/
def tw (B : Nat → Nat) (t : Nat) : Nat := 256 * B t + B (t + 1)
theorem tw_lt {B : Nat → Nat} {t : Nat} (h : B t < 256) (h' : B (t + 1) < 256) : tw B t < 65536 := by unfold tw; omega
theorem val2_X {n t : Nat} {B : Nat → Nat} {σ : St} (hn : n ≤ 8000) (h1 : σ 2 1 = nI n) (hB : BX σ n B) (ht : t + 1 < n) : F_X5_valueAt (nI t) 2 σ = some (nI (tw B t)) := by
  unfold F_X5_valueAt
  rw [show fu = 8997 + 1 + 1 + 1 from rfl, F_X5_valueAt_5, if_neg (by decide), show nI t + 0 = nI t from nI_add t 0, byteAt_in hn h1 hB (by omega), b1_some, nm_eq, nm_eq]
  have e1 : ((0 : Int32) <<< ((8 : Int32) &&& 31)) ||| nI (B t) = nI (B t) := by
    have := two_val (h := 0) (l := B t) (by omega) (hB t (by omega)).1
    rw [show 256 * 0 + B t = B t by omega] at this
    exact this
  rw [e1, F_X5_valueAt_5, if_neg (by decide), show nI t + (0 + 1) = nI (t + 1) from nI_add t 1, byteAt_in hn h1 hB ht, b1_some, nm_eq, nm_eq, two_val (hB t (by omega)).1 (hB (t + 1) ht).1, F_X5_valueAt_5, if_pos (by decide)]
  rfl
theorem two_M {n t : Nat} {B : Nat → Nat} {τ : St} (hn : n ≤ 8000) (hBX : ∀ k, k < n → B k < 256) (hB : BM τ n B) (ht : t + 1 < n) : F_X8_two (nI t) τ = some (nI (tw B t)) := by
  unfold F_X8_two
  rw [show nI t + 1 = nI (t + 1) from nI_1 t, ix_in (by omega) (by omega), ix_in (by omega) (by omega), nI_clamp (by omega), nI_clamp (by omega), hB t (by omega), hB (t + 1) ht, two_val (hBX t (by omega)) (hBX (t + 1) ht)]
  rfl
/-- does an instruction begin at V bytes behind s? -/
def bg (τ : St) (s len V : Nat) : Int32 := if V < len ∧ τ 3 (s + V) ≠ 0 then 1 else 0
theorem bg_01 {τ : St} {s len V : Nat} : bg τ s len V = 0 ∨ bg τ s len V = 1 := by
  unfold bg
  split
  · exact Or.inr rfl
  · exact Or.inl rfl
/-- method m: its code from s on, len bytes of cnt instructions, hc handlers behind it -/
def Mt (n M m s len cnt hc : Nat) (B : Nat → Nat) (σ τ : St) : Prop := m < M ∧ M ≤ 64 ∧ n ≤ 8000 ∧ s + len + 1 + 7 * hc ≤ n ∧ 1 ≤ len ∧ len ≤ 1000 ∧ hc ≤ 8 ∧ (σ 21 m = nI s ∧ τ 16 m = nI s) ∧ (σ 22 m = nI len ∧ τ 17 m = nI len) ∧ σ 23 m = nI cnt ∧ (σ 25 m = nI (s + len + 1) ∧ τ 19 m = nI (s + len + 1)) ∧ (σ 26 m = nI hc ∧ τ 18 m = nI hc) ∧ pos B s cnt = s + len ∧ (∀ j, j < cnt → B (pos B s j) < 42) ∧ (∀ q, s ≤ q → q < s + len → (τ 3 q ≠ 0 ↔ ∃ j, j < cnt ∧ pos B s j = q)) ∧ (∀ q, q < n → (bitX σ q ↔ τ 3 q ≠ 0)) ∧ σ 4 0 = nI M ∧ τ 0 15 = nI M ∧ σ 2 1 = nI n ∧ BX σ n B ∧ BM τ n B
theorem img_mt {n C M m : Nat} {B pt pm : Nat → Nat} {σ τ : St} (hI : Img n B C M pt pm σ τ) (hm : m < M) : ∃ s len cnt hc : Nat, pm m < s ∧ s + len + 1 + 7 * hc = pm (m + 1) ∧ Mt n M m s len cnt hc B σ τ := by
  have hn := (img_pm hI (d := m + 1) (by omega)).1
  obtain ⟨⟨a1, a2, a3, a4, a5⟩, -, ⟨c1, c2, c3, c4, c5, c6, c7⟩, d1, -⟩ := hI
  obtain ⟨-, s, len, cnt, hc, b1, b2, b3, b4, b5, b6, b7, b8, b9, b10, b11, b12, b13⟩ := c5.2 m hm
  exact ⟨s, len, cnt, hc, b1, b5, hm, c2, a1, by omega, b2, b3, b4, b6, b7, b8, b9, b10, b11, b12, b13, d1, c3, c4, a2, a4, a5⟩
theorem Mt.wn {n M m s len cnt hc : Nat} {B : Nat → Nat} {σ τ : St} {w : Option Nat} (h : Mt n M m s len cnt hc B σ τ) : Mt n M m s len cnt hc B σ (Wn w τ) := by
  obtain ⟨a1, a2, a3, a4, a5, a6, a7, a8, a9, a10, a11, a12, a13, a14, a15, a16, a17, a18, a19, a20, a21⟩ := h
  refine ⟨a1, a2, a3, a4, a5, a6, a7, ⟨a8.1, ?_⟩, ⟨a9.1, ?_⟩, a10, ⟨a11.1, ?_⟩, ⟨a12.1, ?_⟩, a13, a14, ?_, ?_, a17, ?_, a19, a20, ?_⟩
  · rw [Wn_row (by decide)]; exact a8.2
  · rw [Wn_row (by decide)]; exact a9.2
  · rw [Wn_row (by decide)]; exact a11.2
  · rw [Wn_row (by decide)]; exact a12.2
  · intro q h1 h2; rw [Wn_row (by decide)]; exact a15 q h1 h2
  · intro q h1; rw [Wn_row (by decide)]; exact a16 q h1
  · rw [Wn_0 (by decide)]; exact a18
  · intro k hk; rw [Wn_row (by decide)]; exact a21 k hk
theorem length_X {σ : St} {m : Nat} (hm : m < 64) : F_X1_length (nI m) σ = some (σ 22 m) := by
  unfold F_X1_length
  rw [if_neg0 (by omega), show (64 : Int32) = nI 64 from rfl, if_le (by omega) (by omega), if_neg (by omega), ix_in (by omega) (by omega), nI_clamp (by omega)]
theorem begins_both {n M m s len cnt hc V : Nat} {B : Nat → Nat} {σ τ : St} (h : Mt n M m s len cnt hc B σ τ) (hV : V < 2 ^ 31) : F_X1_beginsAt (nI m) (nI V) σ = some (bg τ s len V) ∧ F_X8_isBegin (nI m) (nI V) τ = some (bg τ s len V) := by
  obtain ⟨a1, a2, a3, a4, a5, a6, a7, a8, a9, a10, a11, a12, a13, a14, a15, a16, -⟩ := h
  constructor
  · unfold F_X1_beginsAt
    rw [if_neg0 hV, length_X (by omega), b1_some, a9.1, if_lt hV (by omega)]
    by_cases c : V < len
    · rw [if_pos c, ix_in (by omega) (by omega), nm_eq, nI_clamp (by omega), a8.1, nI_add, nm_eq, shr5 (by omega), if_neg0 (by omega), show (250 : Int32) = nI 250 from rfl, if_le (by omega) (by omega), if_neg (by omega), ix_in (by omega) (by omega), nI_clamp (by omega)]
      have z := bitX_iff (σ := σ) (q := s + V) (by omega)
      have y := a16 (s + V) (by omega)
      unfold bg
      by_cases c2 : τ 3 (s + V) ≠ 0
      · rw [if_pos (z.mpr (y.mpr c2)), if_pos ⟨c, c2⟩]
      · rw [if_neg (fun x => c2 (y.mp (z.mp x))), if_neg (fun x => c2 x.2)]
    · rw [if_neg c]
      unfold bg
      rw [if_neg (fun x => c x.1)]
  · unfold F_X8_isBegin
    rw [ix_in (by omega) (by omega), nI_clamp (by omega), a9.2, if_le (by omega) hV]
    by_cases c : V < len
    · rw [if_neg (by omega), ix_in (by omega) (by omega), a8.2, nI_add, ix_in (by omega) (by omega), nI_clamp (by omega)]
      unfold bg
      by_cases c2 : τ 3 (s + V) = 0
      · rw [if_pos c2, if_neg (fun x => x.2 c2)]
      · rw [if_neg c2, if_pos ⟨c, c2⟩]
    · rw [if_pos (by omega)]
      unfold bg
      rw [if_neg (fun x => c x.1)]
