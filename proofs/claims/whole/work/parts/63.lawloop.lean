/-- the two sides agree on every call, and stay related -/
def Ag (Rel : St → St → Prop) : Prop := (∀ (σ τ : St) (x1 x2 x3 x4 x5 : Int32), Rel σ τ → ∃ (r : Int32) (σ' τ' : St), F_X7_feed x1 x2 x3 x4 x5 σ = some (r, σ') ∧ F_X8_feed x1 x2 x3 x4 x5 τ = some (r, τ') ∧ Rel σ' τ') ∧ (∀ (σ τ : St) (x1 : Int32), Rel σ τ → ∃ (r : Int32) (σ' τ' : St), F_X7_end x1 σ = some (r, σ') ∧ F_X8_end x1 τ = some (r, τ') ∧ Rel σ' τ') ∧ (∀ (σ τ : St) (x1 : Int32), Rel σ τ → ∃ r : Int32, F_X7_count x1 σ = some r ∧ F_X8_count x1 τ = some r) ∧ (∀ (σ τ : St) (x1 x2 x3 : Int32), Rel σ τ → ∃ r : Int32, F_X7_classOf x1 x2 x3 σ = some r ∧ F_X8_classOf x1 x2 x3 τ = some r) ∧ (∀ (σ τ : St) (x1 x2 : Int32), Rel σ τ → ∃ r : Int32, F_X7_isA x1 x2 σ = some r ∧ F_X8_isA x1 x2 τ = some r) ∧ (∀ (σ τ : St) (x1 x2 x3 : Int32), Rel σ τ → ∃ r : Int32, F_X7_method x1 x2 x3 σ = some r ∧ F_X8_method x1 x2 x3 τ = some r) ∧ (∀ (σ τ : St) (x1 x2 x3 : Int32), Rel σ τ → ∃ r : Int32, F_X7_handler x1 x2 x3 σ = some r ∧ F_X8_handler x1 x2 x3 τ = some r) ∧ (∀ (σ τ : St) (x1 x2 x3 : Int32), Rel σ τ → ∃ r : Int32, F_X7_instruction x1 x2 x3 σ = some r ∧ F_X8_instruction x1 x2 x3 τ = some r) ∧ (∀ (σ τ : St) (x1 : Int32), Rel σ τ → ∃ r : Int32, F_X7_thrown x1 σ = some r ∧ F_X8_thrown x1 τ = some r)
set_option maxHeartbeats 8000000 in
set_option maxRecDepth 100000 in
theorem law_loop {Rel : St → St → Prop} {p : Program} {l : Launch} {e : Env} {s : State} {m : MethodId} {below : List Frame} {meth : Method} {c : Code} {D : va_G} {cI cZ : ClassId} {z : Nat → Nat} {b L : Nat} {xs : Nat → Int32} (hL : L ≤ 3072) (hAg : Ag Rel) (C : Cx p s m #[Value.ref b] c D [(cI, .int), (cZ, .boolean)] (fun q : Nat => s.heap.size ≤ q) z s.heap.size RL wsL_law cL_law 4) (hX : va_X b L xs s s.heap) (hbl : b < s.heap.size) (hr : meth.sig.returnType = ret) (hlocks : meth.locks = false) :
    ∀ (n i : Nat) (x3 : Int32), i ≤ L + 6 → L + 7 ≤ i + n → x3 = nI i → ∀ (ax am : Nat → Nat) (σ τ : St) (H : Heap) (locs : List Loc) (ls : Array Slot), Rel σ τ → Wd D (fun q : Nat => s.heap.size ≤ q) s.heap H locs (MW cI cZ am τ ++ XW cI cZ ax σ) → lv_has ls 4 [(0, .ref b), (1, .ref (ax 0)), (2, .ref (am 0)), (3, .int x3)] → W p l e room_1 s m #[Value.ref b] below meth c H locs 47 33698 (lw_Z below #[Value.ref b] s) (F0 m 18 ls []) := by
  have hx := C.1.1
  have hb := C.1.2.1
  have hts := C.1.2.2.2.2
  have hbA : ¬ (fun q : Nat => s.heap.size ≤ q) b := Nat.not_le.mpr hbl
  intro n
  induction n with
  | zero =>
    intro i x3 h1 h2
    exact absurd h2 (by omega)
  | succ n ih =>
    intro i x3 hi hin ex3 ax am σ τ H locs ls hRel hw hl
    refine lv_iload_n hx hb dL_law_18 rfl (lv_at hl 3 rfl) ?_
    refine lv_aload_n hx hb dL_law_19 rfl (lv_at hl 0 rfl) ?_
    refine va_slen hx hb hX hbl hbA hw.2.2 dL_law_20 ?_
    refine lv_bipush (v := 6) hx hb dL_law_21 (by decide) ?_
    refine lv_isub hx hb dL_law_23 ?_
    refine lv_icmp_gt (tgt := 427) hx hb dL_law_24 (by decide) (fun c1 => ?_) (fun c1 => ?_)
    · refine lv_iconst (v := 1) hx hb dL_law_427 (by decide) ?_
      refine va_forget (fun q hq => hw.2.2.2.2 q hq) ?_
      exact lw_ret hx hb hr hlocks dL_law_428
    · have hle : i + 6 ≤ L := by
        rcases Nat.lt_or_ge L (i + 6) with q | q
        · exfalso
          apply c1
          rw [ex3]
          show nI L - nI 6 < nI i
          rw [Int32.lt_iff_toInt_lt, pk_sub_toInt (by omega) (by omega), nI_toInt (by omega)]
          omega
        · exact q
      have g0 : vp_in x3 L := by rw [ex3]; exact vp_in_nI (by omega) (by omega)
      have g1 : vp_in (x3 + 1) L := by rw [ex3]; show vp_in (nI i + nI 1) L; rw [nI_add]; exact vp_in_nI (by omega) (by omega)
      have g2 : vp_in (x3 + 2) L := by rw [ex3]; show vp_in (nI i + nI 2) L; rw [nI_add]; exact vp_in_nI (by omega) (by omega)
      have g3 : vp_in (x3 + 3) L := by rw [ex3]; show vp_in (nI i + nI 3) L; rw [nI_add]; exact vp_in_nI (by omega) (by omega)
      have g4 : vp_in (x3 + 4) L := by rw [ex3]; show vp_in (nI i + nI 4) L; rw [nI_add]; exact vp_in_nI (by omega) (by omega)
      have g5 : vp_in (x3 + 5) L := by rw [ex3]; show vp_in (nI i + nI 5) L; rw [nI_add]; exact vp_in_nI (by omega) (by omega)
      have J421 : ∀ (ax : Nat → Nat) (σ τ : St) (H : Heap) (locs : List Loc) (ls : Array Slot), Rel σ τ → Wd D (fun q : Nat => s.heap.size ≤ q) s.heap H locs (MW cI cZ am τ ++ XW cI cZ ax σ) → lv_has ls 4 [(0, .ref b), (1, .ref (ax 0)), (2, .ref (am 0)), (3, .int x3)] → W p l e room_1 s m #[Value.ref b] below meth c H locs 47 33698 (lw_Z below #[Value.ref b] s) (F0 m 421 ls []) := by
        intro ax σ τ H locs ls hRel hw hl
        obtain ⟨v1, e1⟩ : ∃ y : Int32, y = x3 + 6 := ⟨_, rfl⟩
        refine lv_iinc (v := v1) (lv' := [(3, .int v1), (0, .ref b), (1, .ref (ax 0)), (2, .ref (am 0))]) hx hb dL_law_421 hl (k := 3) rfl (by rw [e1]; rfl) (by decide) rfl (fun ls hl => ?_)
        refine lv_goto (tgt := 18) hx hb dL_law_424 (by decide) ?_
        exact ih (i + 6) v1 (by omega) (by omega) (by rw [e1, ex3]; show nI i + nI 6 = nI (i + 6); rw [nI_add]) ax am σ τ _ _ _ hRel hw (lv_sub hl [1, 2, 3, 0] rfl)
      refine lv_aload_n hx hb dL_law_27 rfl (lv_at hl 0 rfl) ?_
      refine lv_iload_n hx hb dL_law_28 rfl (lv_at hl 3 rfl) ?_
      refine va_sld hx hb hX hbl hbA hw.2.2 g0 dL_law_29 ?_
      refine lv_bipush (v := 15) hx hb dL_law_30 (by decide) ?_
      refine lv_iand hx hb dL_law_32 ?_
      refine lv_topi (fun w ew => ?_)
      by_cases cs0 : w = 0
      · refine r_tabIn (k := 0) (tgt := 84) C cs0 dL_law_33 (by decide) (by decide) rfl (by decide) ?_
        obtain ⟨r1, u1, t1, hX1, hM1, hRel⟩ := hAg.1 σ τ (xs (x3 + 1).toNatClampNeg) (xs (x3 + 2).toNatClampNeg) (xs (x3 + 3).toNatClampNeg) (xs (x3 + 4).toNatClampNeg) (xs (x3 + 5).toNatClampNeg) hRel
        refine lv_aload_n hx hb dL_law_84 rfl (lv_at hl 1 rfl) ?_
        refine lv_aload_n hx hb dL_law_85 rfl (lv_at hl 0 rfl) ?_
        refine lv_iload_n hx hb dL_law_86 rfl (lv_at hl 3 rfl) ?_
        refine lv_iconst (v := 1) hx hb dL_law_87 (by decide) ?_
        refine lv_iadd hx hb dL_law_88 ?_
        refine va_sld hx hb hX hbl hbA hw.2.2 g1 dL_law_89 ?_
        refine lv_aload_n hx hb dL_law_90 rfl (lv_at hl 0 rfl) ?_
        refine lv_iload_n hx hb dL_law_91 rfl (lv_at hl 3 rfl) ?_
        refine lv_iconst (v := 2) hx hb dL_law_92 (by decide) ?_
        refine lv_iadd hx hb dL_law_93 ?_
        refine va_sld hx hb hX hbl hbA hw.2.2 g2 dL_law_94 ?_
        refine lv_aload_n hx hb dL_law_95 rfl (lv_at hl 0 rfl) ?_
        refine lv_iload_n hx hb dL_law_96 rfl (lv_at hl 3 rfl) ?_
        refine lv_iconst (v := 3) hx hb dL_law_97 (by decide) ?_
        refine lv_iadd hx hb dL_law_98 ?_
        refine va_sld hx hb hX hbl hbA hw.2.2 g3 dL_law_99 ?_
        refine lv_aload_n hx hb dL_law_100 rfl (lv_at hl 0 rfl) ?_
        refine lv_iload_n hx hb dL_law_101 rfl (lv_at hl 3 rfl) ?_
        refine lv_iconst (v := 4) hx hb dL_law_102 (by decide) ?_
        refine lv_iadd hx hb dL_law_103 ?_
        refine va_sld hx hb hX hbl hbA hw.2.2 g4 dL_law_104 ?_
        refine lv_aload_n hx hb dL_law_105 rfl (lv_at hl 0 rfl) ?_
        refine lv_iload_n hx hb dL_law_106 rfl (lv_at hl 3 rfl) ?_
        refine lv_iconst (v := 5) hx hb dL_law_107 (by decide) ?_
        refine lv_iadd hx hb dL_law_108 ?_
        refine va_sld hx hb hX hbl hbA hw.2.2 g5 dL_law_109 ?_
        refine r_callF (wr := MW cI cZ am τ) (rest := []) C hw (c_X7_feed l D cI cZ z s.heap.size ax (xs (x3 + 1).toNatClampNeg) (xs (x3 + 2).toNatClampNeg) (xs (x3 + 3).toNatClampNeg) (xs (x3 + 4).toNatClampNeg) (xs (x3 + 5).toNatClampNeg) σ r1 u1 hX1) (cwV 5 hts gL_law_X7_feed rfl rfl rfl (by decide +kernel) ⟨Nat.le_of_ble_eq_true rfl, Nat.le_of_ble_eq_true rfl⟩) (va_recv C.2.1 hw.right.1 (ci := 6) (q0 := 0) rfl (XWa_0 cI cZ ax σ)) rfl hl.1 rfl (Nat.le_of_ble_eq_true rfl) dL_law_110 ⟨by decide, by decide⟩ (fun H locs hw => ?_)
        have hw := hw.comm
        refine lv_aload_n hx hb dL_law_113 rfl (lv_at hl 2 rfl) ?_
        refine lv_aload_n hx hb dL_law_114 rfl (lv_at hl 0 rfl) ?_
        refine lv_iload_n hx hb dL_law_115 rfl (lv_at hl 3 rfl) ?_
        refine lv_iconst (v := 1) hx hb dL_law_116 (by decide) ?_
        refine lv_iadd hx hb dL_law_117 ?_
        refine va_sld hx hb hX hbl hbA hw.2.2 g1 dL_law_118 ?_
        refine lv_aload_n hx hb dL_law_119 rfl (lv_at hl 0 rfl) ?_
        refine lv_iload_n hx hb dL_law_120 rfl (lv_at hl 3 rfl) ?_
        refine lv_iconst (v := 2) hx hb dL_law_121 (by decide) ?_
        refine lv_iadd hx hb dL_law_122 ?_
        refine va_sld hx hb hX hbl hbA hw.2.2 g2 dL_law_123 ?_
        refine lv_aload_n hx hb dL_law_124 rfl (lv_at hl 0 rfl) ?_
        refine lv_iload_n hx hb dL_law_125 rfl (lv_at hl 3 rfl) ?_
        refine lv_iconst (v := 3) hx hb dL_law_126 (by decide) ?_
        refine lv_iadd hx hb dL_law_127 ?_
        refine va_sld hx hb hX hbl hbA hw.2.2 g3 dL_law_128 ?_
        refine lv_aload_n hx hb dL_law_129 rfl (lv_at hl 0 rfl) ?_
        refine lv_iload_n hx hb dL_law_130 rfl (lv_at hl 3 rfl) ?_
        refine lv_iconst (v := 4) hx hb dL_law_131 (by decide) ?_
        refine lv_iadd hx hb dL_law_132 ?_
        refine va_sld hx hb hX hbl hbA hw.2.2 g4 dL_law_133 ?_
        refine lv_aload_n hx hb dL_law_134 rfl (lv_at hl 0 rfl) ?_
        refine lv_iload_n hx hb dL_law_135 rfl (lv_at hl 3 rfl) ?_
        refine lv_iconst (v := 5) hx hb dL_law_136 (by decide) ?_
        refine lv_iadd hx hb dL_law_137 ?_
        refine va_sld hx hb hX hbl hbA hw.2.2 g5 dL_law_138 ?_
        refine r_callF (wr := XW cI cZ ax u1) (rest := [.int r1]) C hw (c_X8_feed l D cI cZ z s.heap.size am (xs (x3 + 1).toNatClampNeg) (xs (x3 + 2).toNatClampNeg) (xs (x3 + 3).toNatClampNeg) (xs (x3 + 4).toNatClampNeg) (xs (x3 + 5).toNatClampNeg) τ r1 t1 hM1) (cwV 5 hts gL_law_X8_feed rfl rfl rfl (by decide +kernel) ⟨Nat.le_of_ble_eq_true rfl, Nat.le_of_ble_eq_true rfl⟩) (va_recv C.2.1 hw.right.1 (ci := 7) (q0 := 0) rfl (MWa_0 cI cZ am τ)) rfl hl.1 rfl (Nat.le_of_ble_eq_true rfl) dL_law_139 ⟨by decide, by decide⟩ (fun H locs hw => ?_)
        have hw := hw.comm
        refine lv_icmp_eq (tgt := 421) hx hb dL_law_142 (by decide) (fun c2 => ?_) (fun c2 => absurd rfl c2)
        exact J421 ax u1 t1 _ _ _ hRel hw hl
      by_cases cs1 : w = 1
      · refine r_tabIn (k := 1) (tgt := 147) C cs1 dL_law_33 (by decide) (by decide) rfl (by decide) ?_
        obtain ⟨r1, u1, t1, hX1, hM1, hRel⟩ := hAg.2.1 σ τ (xs (x3 + 1).toNatClampNeg) hRel
        refine lv_aload_n hx hb dL_law_147 rfl (lv_at hl 1 rfl) ?_
        refine lv_aload_n hx hb dL_law_148 rfl (lv_at hl 0 rfl) ?_
        refine lv_iload_n hx hb dL_law_149 rfl (lv_at hl 3 rfl) ?_
        refine lv_iconst (v := 1) hx hb dL_law_150 (by decide) ?_
        refine lv_iadd hx hb dL_law_151 ?_
        refine va_sld hx hb hX hbl hbA hw.2.2 g1 dL_law_152 ?_
        obtain ⟨rT, hME⟩ := c_X7_end l D cI cZ z s.heap.size ax (xs (x3 + 1).toNatClampNeg) σ r1 u1 hX1
        refine r_callF (wr := MW cI cZ am τ) (rest := []) C hw hME (cwV 1 hts gL_law_X7_end rfl rfl rfl (by decide +kernel) ⟨Nat.le_of_ble_eq_true rfl, Nat.le_of_ble_eq_true rfl⟩) (va_recv C.2.1 hw.right.1 (ci := 6) (q0 := 0) rfl (XWa_0 cI cZ ax σ)) rfl hl.1 rfl (Nat.le_of_ble_eq_true rfl) dL_law_153 ⟨by decide, by decide⟩ (fun H locs hw => ?_)
        have hw := hw.comm
        refine lv_aload_n hx hb dL_law_156 rfl (lv_at hl 2 rfl) ?_
        refine lv_aload_n hx hb dL_law_157 rfl (lv_at hl 0 rfl) ?_
        refine lv_iload_n hx hb dL_law_158 rfl (lv_at hl 3 rfl) ?_
        refine lv_iconst (v := 1) hx hb dL_law_159 (by decide) ?_
        refine lv_iadd hx hb dL_law_160 ?_
        refine va_sld hx hb hX hbl hbA hw.2.2 g1 dL_law_161 ?_
        refine r_callF (wr := XW cI cZ (asw rT ax) u1) (rest := [.int r1]) C hw (c_X8_end l D cI cZ z s.heap.size am (xs (x3 + 1).toNatClampNeg) τ r1 t1 hM1) (cwV 1 hts gL_law_X8_end rfl rfl rfl (by decide +kernel) ⟨Nat.le_of_ble_eq_true rfl, Nat.le_of_ble_eq_true rfl⟩) (va_recv C.2.1 hw.right.1 (ci := 7) (q0 := 0) rfl (MWa_0 cI cZ am τ)) rfl hl.1 rfl (Nat.le_of_ble_eq_true rfl) dL_law_162 ⟨by decide, by decide⟩ (fun H locs hw => ?_)
        have hw := hw.comm
        refine lv_icmp_eq (tgt := 421) hx hb dL_law_165 (by decide) (fun c2 => ?_) (fun c2 => absurd rfl c2)
        have hl : lv_has ls 4 [(0, .ref b), (1, .ref (asw rT ax 0)), (2, .ref (am 0)), (3, .int x3)] := by rw [asw_ne (by decide) (by decide)]; exact hl
        exact J421 (asw rT ax) u1 t1 _ _ _ hRel hw hl
      by_cases cs2 : w = 2
      · refine r_tabIn (k := 2) (tgt := 170) C cs2 dL_law_33 (by decide) (by decide) rfl (by decide) ?_
        obtain ⟨r1, hX1, hM1⟩ := hAg.2.2.1 σ τ (xs (x3 + 1).toNatClampNeg) hRel
        refine lv_aload_n hx hb dL_law_170 rfl (lv_at hl 1 rfl) ?_
        refine lv_aload_n hx hb dL_law_171 rfl (lv_at hl 0 rfl) ?_
        refine lv_iload_n hx hb dL_law_172 rfl (lv_at hl 3 rfl) ?_
        refine lv_iconst (v := 1) hx hb dL_law_173 (by decide) ?_
        refine lv_iadd hx hb dL_law_174 ?_
        refine va_sld hx hb hX hbl hbA hw.2.2 g1 dL_law_175 ?_
        refine r_callF (wr := MW cI cZ am τ) (rest := []) C hw (c_X7_count l D cI cZ z s.heap.size ax (xs (x3 + 1).toNatClampNeg) σ r1 hX1) (cwV 1 hts gL_law_X7_count rfl rfl rfl (by decide +kernel) ⟨Nat.le_of_ble_eq_true rfl, Nat.le_of_ble_eq_true rfl⟩) (va_recv C.2.1 hw.right.1 (ci := 6) (q0 := 0) rfl (XWa_0 cI cZ ax σ)) rfl hl.1 rfl (Nat.le_of_ble_eq_true rfl) dL_law_176 ⟨by decide, by decide⟩ (fun H locs hw => ?_)
        have hw := hw.comm
        refine lv_aload_n hx hb dL_law_179 rfl (lv_at hl 2 rfl) ?_
        refine lv_aload_n hx hb dL_law_180 rfl (lv_at hl 0 rfl) ?_
        refine lv_iload_n hx hb dL_law_181 rfl (lv_at hl 3 rfl) ?_
        refine lv_iconst (v := 1) hx hb dL_law_182 (by decide) ?_
        refine lv_iadd hx hb dL_law_183 ?_
        refine va_sld hx hb hX hbl hbA hw.2.2 g1 dL_law_184 ?_
        refine r_callF (wr := XW cI cZ ax σ) (rest := [.int r1]) C hw (c_X8_count l D cI cZ z s.heap.size am (xs (x3 + 1).toNatClampNeg) τ r1 hM1) (cwV 1 hts gL_law_X8_count rfl rfl rfl (by decide +kernel) ⟨Nat.le_of_ble_eq_true rfl, Nat.le_of_ble_eq_true rfl⟩) (va_recv C.2.1 hw.right.1 (ci := 7) (q0 := 0) rfl (MWa_0 cI cZ am τ)) rfl hl.1 rfl (Nat.le_of_ble_eq_true rfl) dL_law_185 ⟨by decide, by decide⟩ (fun H locs hw => ?_)
        have hw := hw.comm
        refine lv_icmp_eq (tgt := 421) hx hb dL_law_188 (by decide) (fun c2 => ?_) (fun c2 => absurd rfl c2)
        exact J421 ax σ τ _ _ _ hRel hw hl
      by_cases cs3 : w = 3
      · refine r_tabIn (k := 3) (tgt := 193) C cs3 dL_law_33 (by decide) (by decide) rfl (by decide) ?_
        obtain ⟨r1, hX1, hM1⟩ := hAg.2.2.2.1 σ τ (xs (x3 + 1).toNatClampNeg) (xs (x3 + 2).toNatClampNeg) (xs (x3 + 3).toNatClampNeg) hRel
        refine lv_aload_n hx hb dL_law_193 rfl (lv_at hl 1 rfl) ?_
        refine lv_aload_n hx hb dL_law_194 rfl (lv_at hl 0 rfl) ?_
        refine lv_iload_n hx hb dL_law_195 rfl (lv_at hl 3 rfl) ?_
        refine lv_iconst (v := 1) hx hb dL_law_196 (by decide) ?_
        refine lv_iadd hx hb dL_law_197 ?_
        refine va_sld hx hb hX hbl hbA hw.2.2 g1 dL_law_198 ?_
        refine lv_aload_n hx hb dL_law_199 rfl (lv_at hl 0 rfl) ?_
        refine lv_iload_n hx hb dL_law_200 rfl (lv_at hl 3 rfl) ?_
        refine lv_iconst (v := 2) hx hb dL_law_201 (by decide) ?_
        refine lv_iadd hx hb dL_law_202 ?_
        refine va_sld hx hb hX hbl hbA hw.2.2 g2 dL_law_203 ?_
        refine lv_aload_n hx hb dL_law_204 rfl (lv_at hl 0 rfl) ?_
        refine lv_iload_n hx hb dL_law_205 rfl (lv_at hl 3 rfl) ?_
        refine lv_iconst (v := 3) hx hb dL_law_206 (by decide) ?_
        refine lv_iadd hx hb dL_law_207 ?_
        refine va_sld hx hb hX hbl hbA hw.2.2 g3 dL_law_208 ?_
        refine r_callF (wr := MW cI cZ am τ) (rest := []) C hw (c_X7_classOf l D cI cZ z s.heap.size ax (xs (x3 + 1).toNatClampNeg) (xs (x3 + 2).toNatClampNeg) (xs (x3 + 3).toNatClampNeg) σ r1 hX1) (cwV 3 hts gL_law_X7_classOf rfl rfl rfl (by decide +kernel) ⟨Nat.le_of_ble_eq_true rfl, Nat.le_of_ble_eq_true rfl⟩) (va_recv C.2.1 hw.right.1 (ci := 6) (q0 := 0) rfl (XWa_0 cI cZ ax σ)) rfl hl.1 rfl (Nat.le_of_ble_eq_true rfl) dL_law_209 ⟨by decide, by decide⟩ (fun H locs hw => ?_)
        have hw := hw.comm
        refine lv_aload_n hx hb dL_law_212 rfl (lv_at hl 2 rfl) ?_
        refine lv_aload_n hx hb dL_law_213 rfl (lv_at hl 0 rfl) ?_
        refine lv_iload_n hx hb dL_law_214 rfl (lv_at hl 3 rfl) ?_
        refine lv_iconst (v := 1) hx hb dL_law_215 (by decide) ?_
        refine lv_iadd hx hb dL_law_216 ?_
        refine va_sld hx hb hX hbl hbA hw.2.2 g1 dL_law_217 ?_
        refine lv_aload_n hx hb dL_law_218 rfl (lv_at hl 0 rfl) ?_
        refine lv_iload_n hx hb dL_law_219 rfl (lv_at hl 3 rfl) ?_
        refine lv_iconst (v := 2) hx hb dL_law_220 (by decide) ?_
        refine lv_iadd hx hb dL_law_221 ?_
        refine va_sld hx hb hX hbl hbA hw.2.2 g2 dL_law_222 ?_
        refine lv_aload_n hx hb dL_law_223 rfl (lv_at hl 0 rfl) ?_
        refine lv_iload_n hx hb dL_law_224 rfl (lv_at hl 3 rfl) ?_
        refine lv_iconst (v := 3) hx hb dL_law_225 (by decide) ?_
        refine lv_iadd hx hb dL_law_226 ?_
        refine va_sld hx hb hX hbl hbA hw.2.2 g3 dL_law_227 ?_
        refine r_callF (wr := XW cI cZ ax σ) (rest := [.int r1]) C hw (c_X8_classOf l D cI cZ z s.heap.size am (xs (x3 + 1).toNatClampNeg) (xs (x3 + 2).toNatClampNeg) (xs (x3 + 3).toNatClampNeg) τ r1 hM1) (cwV 3 hts gL_law_X8_classOf rfl rfl rfl (by decide +kernel) ⟨Nat.le_of_ble_eq_true rfl, Nat.le_of_ble_eq_true rfl⟩) (va_recv C.2.1 hw.right.1 (ci := 7) (q0 := 0) rfl (MWa_0 cI cZ am τ)) rfl hl.1 rfl (Nat.le_of_ble_eq_true rfl) dL_law_228 ⟨by decide, by decide⟩ (fun H locs hw => ?_)
        have hw := hw.comm
        refine lv_icmp_eq (tgt := 421) hx hb dL_law_231 (by decide) (fun c2 => ?_) (fun c2 => absurd rfl c2)
        exact J421 ax σ τ _ _ _ hRel hw hl
      by_cases cs4 : w = 4
      · refine r_tabIn (k := 4) (tgt := 236) C cs4 dL_law_33 (by decide) (by decide) rfl (by decide) ?_
        obtain ⟨r1, hX1, hM1⟩ := hAg.2.2.2.2.1 σ τ (xs (x3 + 1).toNatClampNeg) (xs (x3 + 2).toNatClampNeg) hRel
        refine lv_aload_n hx hb dL_law_236 rfl (lv_at hl 1 rfl) ?_
        refine lv_aload_n hx hb dL_law_237 rfl (lv_at hl 0 rfl) ?_
        refine lv_iload_n hx hb dL_law_238 rfl (lv_at hl 3 rfl) ?_
        refine lv_iconst (v := 1) hx hb dL_law_239 (by decide) ?_
        refine lv_iadd hx hb dL_law_240 ?_
        refine va_sld hx hb hX hbl hbA hw.2.2 g1 dL_law_241 ?_
        refine lv_aload_n hx hb dL_law_242 rfl (lv_at hl 0 rfl) ?_
        refine lv_iload_n hx hb dL_law_243 rfl (lv_at hl 3 rfl) ?_
        refine lv_iconst (v := 2) hx hb dL_law_244 (by decide) ?_
        refine lv_iadd hx hb dL_law_245 ?_
        refine va_sld hx hb hX hbl hbA hw.2.2 g2 dL_law_246 ?_
        refine r_callF (wr := MW cI cZ am τ) (rest := []) C hw (c_X7_isA l D cI cZ z s.heap.size ax (xs (x3 + 1).toNatClampNeg) (xs (x3 + 2).toNatClampNeg) σ r1 hX1) (cwV 2 hts gL_law_X7_isA rfl rfl rfl (by decide +kernel) ⟨Nat.le_of_ble_eq_true rfl, Nat.le_of_ble_eq_true rfl⟩) (va_recv C.2.1 hw.right.1 (ci := 6) (q0 := 0) rfl (XWa_0 cI cZ ax σ)) rfl hl.1 rfl (Nat.le_of_ble_eq_true rfl) dL_law_247 ⟨by decide, by decide⟩ (fun H locs hw => ?_)
        have hw := hw.comm
        refine lv_aload_n hx hb dL_law_250 rfl (lv_at hl 2 rfl) ?_
        refine lv_aload_n hx hb dL_law_251 rfl (lv_at hl 0 rfl) ?_
        refine lv_iload_n hx hb dL_law_252 rfl (lv_at hl 3 rfl) ?_
        refine lv_iconst (v := 1) hx hb dL_law_253 (by decide) ?_
        refine lv_iadd hx hb dL_law_254 ?_
        refine va_sld hx hb hX hbl hbA hw.2.2 g1 dL_law_255 ?_
        refine lv_aload_n hx hb dL_law_256 rfl (lv_at hl 0 rfl) ?_
        refine lv_iload_n hx hb dL_law_257 rfl (lv_at hl 3 rfl) ?_
        refine lv_iconst (v := 2) hx hb dL_law_258 (by decide) ?_
        refine lv_iadd hx hb dL_law_259 ?_
        refine va_sld hx hb hX hbl hbA hw.2.2 g2 dL_law_260 ?_
        refine r_callF (wr := XW cI cZ ax σ) (rest := [.int r1]) C hw (c_X8_isA l D cI cZ z s.heap.size am (xs (x3 + 1).toNatClampNeg) (xs (x3 + 2).toNatClampNeg) τ r1 hM1) (cwV 2 hts gL_law_X8_isA rfl rfl rfl (by decide +kernel) ⟨Nat.le_of_ble_eq_true rfl, Nat.le_of_ble_eq_true rfl⟩) (va_recv C.2.1 hw.right.1 (ci := 7) (q0 := 0) rfl (MWa_0 cI cZ am τ)) rfl hl.1 rfl (Nat.le_of_ble_eq_true rfl) dL_law_261 ⟨by decide, by decide⟩ (fun H locs hw => ?_)
        have hw := hw.comm
        refine lv_icmp_eq (tgt := 421) hx hb dL_law_264 (by decide) (fun c2 => ?_) (fun c2 => absurd rfl c2)
        exact J421 ax σ τ _ _ _ hRel hw hl
      by_cases cs5 : w = 5
      · refine r_tabIn (k := 5) (tgt := 269) C cs5 dL_law_33 (by decide) (by decide) rfl (by decide) ?_
        obtain ⟨r1, hX1, hM1⟩ := hAg.2.2.2.2.2.1 σ τ (xs (x3 + 1).toNatClampNeg) (xs (x3 + 2).toNatClampNeg) (xs (x3 + 3).toNatClampNeg) hRel
        refine lv_aload_n hx hb dL_law_269 rfl (lv_at hl 1 rfl) ?_
        refine lv_aload_n hx hb dL_law_270 rfl (lv_at hl 0 rfl) ?_
        refine lv_iload_n hx hb dL_law_271 rfl (lv_at hl 3 rfl) ?_
        refine lv_iconst (v := 1) hx hb dL_law_272 (by decide) ?_
        refine lv_iadd hx hb dL_law_273 ?_
        refine va_sld hx hb hX hbl hbA hw.2.2 g1 dL_law_274 ?_
        refine lv_aload_n hx hb dL_law_275 rfl (lv_at hl 0 rfl) ?_
        refine lv_iload_n hx hb dL_law_276 rfl (lv_at hl 3 rfl) ?_
        refine lv_iconst (v := 2) hx hb dL_law_277 (by decide) ?_
        refine lv_iadd hx hb dL_law_278 ?_
        refine va_sld hx hb hX hbl hbA hw.2.2 g2 dL_law_279 ?_
        refine lv_aload_n hx hb dL_law_280 rfl (lv_at hl 0 rfl) ?_
        refine lv_iload_n hx hb dL_law_281 rfl (lv_at hl 3 rfl) ?_
        refine lv_iconst (v := 3) hx hb dL_law_282 (by decide) ?_
        refine lv_iadd hx hb dL_law_283 ?_
        refine va_sld hx hb hX hbl hbA hw.2.2 g3 dL_law_284 ?_
        refine r_callF (wr := MW cI cZ am τ) (rest := []) C hw (c_X7_method l D cI cZ z s.heap.size ax (xs (x3 + 1).toNatClampNeg) (xs (x3 + 2).toNatClampNeg) (xs (x3 + 3).toNatClampNeg) σ r1 hX1) (cwV 3 hts gL_law_X7_method rfl rfl rfl (by decide +kernel) ⟨Nat.le_of_ble_eq_true rfl, Nat.le_of_ble_eq_true rfl⟩) (va_recv C.2.1 hw.right.1 (ci := 6) (q0 := 0) rfl (XWa_0 cI cZ ax σ)) rfl hl.1 rfl (Nat.le_of_ble_eq_true rfl) dL_law_285 ⟨by decide, by decide⟩ (fun H locs hw => ?_)
        have hw := hw.comm
        refine lv_aload_n hx hb dL_law_288 rfl (lv_at hl 2 rfl) ?_
        refine lv_aload_n hx hb dL_law_289 rfl (lv_at hl 0 rfl) ?_
        refine lv_iload_n hx hb dL_law_290 rfl (lv_at hl 3 rfl) ?_
        refine lv_iconst (v := 1) hx hb dL_law_291 (by decide) ?_
        refine lv_iadd hx hb dL_law_292 ?_
        refine va_sld hx hb hX hbl hbA hw.2.2 g1 dL_law_293 ?_
        refine lv_aload_n hx hb dL_law_294 rfl (lv_at hl 0 rfl) ?_
        refine lv_iload_n hx hb dL_law_295 rfl (lv_at hl 3 rfl) ?_
        refine lv_iconst (v := 2) hx hb dL_law_296 (by decide) ?_
        refine lv_iadd hx hb dL_law_297 ?_
        refine va_sld hx hb hX hbl hbA hw.2.2 g2 dL_law_298 ?_
        refine lv_aload_n hx hb dL_law_299 rfl (lv_at hl 0 rfl) ?_
        refine lv_iload_n hx hb dL_law_300 rfl (lv_at hl 3 rfl) ?_
        refine lv_iconst (v := 3) hx hb dL_law_301 (by decide) ?_
        refine lv_iadd hx hb dL_law_302 ?_
        refine va_sld hx hb hX hbl hbA hw.2.2 g3 dL_law_303 ?_
        refine r_callF (wr := XW cI cZ ax σ) (rest := [.int r1]) C hw (c_X8_method l D cI cZ z s.heap.size am (xs (x3 + 1).toNatClampNeg) (xs (x3 + 2).toNatClampNeg) (xs (x3 + 3).toNatClampNeg) τ r1 hM1) (cwV 3 hts gL_law_X8_method rfl rfl rfl (by decide +kernel) ⟨Nat.le_of_ble_eq_true rfl, Nat.le_of_ble_eq_true rfl⟩) (va_recv C.2.1 hw.right.1 (ci := 7) (q0 := 0) rfl (MWa_0 cI cZ am τ)) rfl hl.1 rfl (Nat.le_of_ble_eq_true rfl) dL_law_304 ⟨by decide, by decide⟩ (fun H locs hw => ?_)
        have hw := hw.comm
        refine lv_icmp_eq (tgt := 421) hx hb dL_law_307 (by decide) (fun c2 => ?_) (fun c2 => absurd rfl c2)
        exact J421 ax σ τ _ _ _ hRel hw hl
      by_cases cs6 : w = 6
      · refine r_tabIn (k := 6) (tgt := 312) C cs6 dL_law_33 (by decide) (by decide) rfl (by decide) ?_
        obtain ⟨r1, hX1, hM1⟩ := hAg.2.2.2.2.2.2.1 σ τ (xs (x3 + 1).toNatClampNeg) (xs (x3 + 2).toNatClampNeg) (xs (x3 + 3).toNatClampNeg) hRel
        refine lv_aload_n hx hb dL_law_312 rfl (lv_at hl 1 rfl) ?_
        refine lv_aload_n hx hb dL_law_313 rfl (lv_at hl 0 rfl) ?_
        refine lv_iload_n hx hb dL_law_314 rfl (lv_at hl 3 rfl) ?_
        refine lv_iconst (v := 1) hx hb dL_law_315 (by decide) ?_
        refine lv_iadd hx hb dL_law_316 ?_
        refine va_sld hx hb hX hbl hbA hw.2.2 g1 dL_law_317 ?_
        refine lv_aload_n hx hb dL_law_318 rfl (lv_at hl 0 rfl) ?_
        refine lv_iload_n hx hb dL_law_319 rfl (lv_at hl 3 rfl) ?_
        refine lv_iconst (v := 2) hx hb dL_law_320 (by decide) ?_
        refine lv_iadd hx hb dL_law_321 ?_
        refine va_sld hx hb hX hbl hbA hw.2.2 g2 dL_law_322 ?_
        refine lv_aload_n hx hb dL_law_323 rfl (lv_at hl 0 rfl) ?_
        refine lv_iload_n hx hb dL_law_324 rfl (lv_at hl 3 rfl) ?_
        refine lv_iconst (v := 3) hx hb dL_law_325 (by decide) ?_
        refine lv_iadd hx hb dL_law_326 ?_
        refine va_sld hx hb hX hbl hbA hw.2.2 g3 dL_law_327 ?_
        refine r_callF (wr := MW cI cZ am τ) (rest := []) C hw (c_X7_handler l D cI cZ z s.heap.size ax (xs (x3 + 1).toNatClampNeg) (xs (x3 + 2).toNatClampNeg) (xs (x3 + 3).toNatClampNeg) σ r1 hX1) (cwV 3 hts gL_law_X7_handler rfl rfl rfl (by decide +kernel) ⟨Nat.le_of_ble_eq_true rfl, Nat.le_of_ble_eq_true rfl⟩) (va_recv C.2.1 hw.right.1 (ci := 6) (q0 := 0) rfl (XWa_0 cI cZ ax σ)) rfl hl.1 rfl (Nat.le_of_ble_eq_true rfl) dL_law_328 ⟨by decide, by decide⟩ (fun H locs hw => ?_)
        have hw := hw.comm
        refine lv_aload_n hx hb dL_law_331 rfl (lv_at hl 2 rfl) ?_
        refine lv_aload_n hx hb dL_law_332 rfl (lv_at hl 0 rfl) ?_
        refine lv_iload_n hx hb dL_law_333 rfl (lv_at hl 3 rfl) ?_
        refine lv_iconst (v := 1) hx hb dL_law_334 (by decide) ?_
        refine lv_iadd hx hb dL_law_335 ?_
        refine va_sld hx hb hX hbl hbA hw.2.2 g1 dL_law_336 ?_
        refine lv_aload_n hx hb dL_law_337 rfl (lv_at hl 0 rfl) ?_
        refine lv_iload_n hx hb dL_law_338 rfl (lv_at hl 3 rfl) ?_
        refine lv_iconst (v := 2) hx hb dL_law_339 (by decide) ?_
        refine lv_iadd hx hb dL_law_340 ?_
        refine va_sld hx hb hX hbl hbA hw.2.2 g2 dL_law_341 ?_
        refine lv_aload_n hx hb dL_law_342 rfl (lv_at hl 0 rfl) ?_
        refine lv_iload_n hx hb dL_law_343 rfl (lv_at hl 3 rfl) ?_
        refine lv_iconst (v := 3) hx hb dL_law_344 (by decide) ?_
        refine lv_iadd hx hb dL_law_345 ?_
        refine va_sld hx hb hX hbl hbA hw.2.2 g3 dL_law_346 ?_
        refine r_callF (wr := XW cI cZ ax σ) (rest := [.int r1]) C hw (c_X8_handler l D cI cZ z s.heap.size am (xs (x3 + 1).toNatClampNeg) (xs (x3 + 2).toNatClampNeg) (xs (x3 + 3).toNatClampNeg) τ r1 hM1) (cwV 3 hts gL_law_X8_handler rfl rfl rfl (by decide +kernel) ⟨Nat.le_of_ble_eq_true rfl, Nat.le_of_ble_eq_true rfl⟩) (va_recv C.2.1 hw.right.1 (ci := 7) (q0 := 0) rfl (MWa_0 cI cZ am τ)) rfl hl.1 rfl (Nat.le_of_ble_eq_true rfl) dL_law_347 ⟨by decide, by decide⟩ (fun H locs hw => ?_)
        have hw := hw.comm
        refine lv_icmp_eq (tgt := 421) hx hb dL_law_350 (by decide) (fun c2 => ?_) (fun c2 => absurd rfl c2)
        exact J421 ax σ τ _ _ _ hRel hw hl
      by_cases cs7 : w = 7
      · refine r_tabIn (k := 7) (tgt := 355) C cs7 dL_law_33 (by decide) (by decide) rfl (by decide) ?_
        obtain ⟨r1, hX1, hM1⟩ := hAg.2.2.2.2.2.2.2.1 σ τ (xs (x3 + 1).toNatClampNeg) (xs (x3 + 2).toNatClampNeg) (xs (x3 + 3).toNatClampNeg) hRel
        refine lv_aload_n hx hb dL_law_355 rfl (lv_at hl 1 rfl) ?_
        refine lv_aload_n hx hb dL_law_356 rfl (lv_at hl 0 rfl) ?_
        refine lv_iload_n hx hb dL_law_357 rfl (lv_at hl 3 rfl) ?_
        refine lv_iconst (v := 1) hx hb dL_law_358 (by decide) ?_
        refine lv_iadd hx hb dL_law_359 ?_
        refine va_sld hx hb hX hbl hbA hw.2.2 g1 dL_law_360 ?_
        refine lv_aload_n hx hb dL_law_361 rfl (lv_at hl 0 rfl) ?_
        refine lv_iload_n hx hb dL_law_362 rfl (lv_at hl 3 rfl) ?_
        refine lv_iconst (v := 2) hx hb dL_law_363 (by decide) ?_
        refine lv_iadd hx hb dL_law_364 ?_
        refine va_sld hx hb hX hbl hbA hw.2.2 g2 dL_law_365 ?_
        refine lv_aload_n hx hb dL_law_366 rfl (lv_at hl 0 rfl) ?_
        refine lv_iload_n hx hb dL_law_367 rfl (lv_at hl 3 rfl) ?_
        refine lv_iconst (v := 3) hx hb dL_law_368 (by decide) ?_
        refine lv_iadd hx hb dL_law_369 ?_
        refine va_sld hx hb hX hbl hbA hw.2.2 g3 dL_law_370 ?_
        refine r_callF (wr := MW cI cZ am τ) (rest := []) C hw (c_X7_instruction l D cI cZ z s.heap.size ax (xs (x3 + 1).toNatClampNeg) (xs (x3 + 2).toNatClampNeg) (xs (x3 + 3).toNatClampNeg) σ r1 hX1) (cwV 3 hts gL_law_X7_instruction rfl rfl rfl (by decide +kernel) ⟨Nat.le_of_ble_eq_true rfl, Nat.le_of_ble_eq_true rfl⟩) (va_recv C.2.1 hw.right.1 (ci := 6) (q0 := 0) rfl (XWa_0 cI cZ ax σ)) rfl hl.1 rfl (Nat.le_of_ble_eq_true rfl) dL_law_371 ⟨by decide, by decide⟩ (fun H locs hw => ?_)
        have hw := hw.comm
        refine lv_aload_n hx hb dL_law_374 rfl (lv_at hl 2 rfl) ?_
        refine lv_aload_n hx hb dL_law_375 rfl (lv_at hl 0 rfl) ?_
        refine lv_iload_n hx hb dL_law_376 rfl (lv_at hl 3 rfl) ?_
        refine lv_iconst (v := 1) hx hb dL_law_377 (by decide) ?_
        refine lv_iadd hx hb dL_law_378 ?_
        refine va_sld hx hb hX hbl hbA hw.2.2 g1 dL_law_379 ?_
        refine lv_aload_n hx hb dL_law_380 rfl (lv_at hl 0 rfl) ?_
        refine lv_iload_n hx hb dL_law_381 rfl (lv_at hl 3 rfl) ?_
        refine lv_iconst (v := 2) hx hb dL_law_382 (by decide) ?_
        refine lv_iadd hx hb dL_law_383 ?_
        refine va_sld hx hb hX hbl hbA hw.2.2 g2 dL_law_384 ?_
        refine lv_aload_n hx hb dL_law_385 rfl (lv_at hl 0 rfl) ?_
        refine lv_iload_n hx hb dL_law_386 rfl (lv_at hl 3 rfl) ?_
        refine lv_iconst (v := 3) hx hb dL_law_387 (by decide) ?_
        refine lv_iadd hx hb dL_law_388 ?_
        refine va_sld hx hb hX hbl hbA hw.2.2 g3 dL_law_389 ?_
        refine r_callF (wr := XW cI cZ ax σ) (rest := [.int r1]) C hw (c_X8_instruction l D cI cZ z s.heap.size am (xs (x3 + 1).toNatClampNeg) (xs (x3 + 2).toNatClampNeg) (xs (x3 + 3).toNatClampNeg) τ r1 hM1) (cwV 3 hts gL_law_X8_instruction rfl rfl rfl (by decide +kernel) ⟨Nat.le_of_ble_eq_true rfl, Nat.le_of_ble_eq_true rfl⟩) (va_recv C.2.1 hw.right.1 (ci := 7) (q0 := 0) rfl (MWa_0 cI cZ am τ)) rfl hl.1 rfl (Nat.le_of_ble_eq_true rfl) dL_law_390 ⟨by decide, by decide⟩ (fun H locs hw => ?_)
        have hw := hw.comm
        refine lv_icmp_eq (tgt := 421) hx hb dL_law_393 (by decide) (fun c2 => ?_) (fun c2 => absurd rfl c2)
        exact J421 ax σ τ _ _ _ hRel hw hl
      by_cases cs8 : w = 8
      · refine r_tabIn (k := 8) (tgt := 398) C cs8 dL_law_33 (by decide) (by decide) rfl (by decide) ?_
        obtain ⟨r1, hX1, hM1⟩ := hAg.2.2.2.2.2.2.2.2 σ τ (xs (x3 + 1).toNatClampNeg) hRel
        refine lv_aload_n hx hb dL_law_398 rfl (lv_at hl 1 rfl) ?_
        refine lv_aload_n hx hb dL_law_399 rfl (lv_at hl 0 rfl) ?_
        refine lv_iload_n hx hb dL_law_400 rfl (lv_at hl 3 rfl) ?_
        refine lv_iconst (v := 1) hx hb dL_law_401 (by decide) ?_
        refine lv_iadd hx hb dL_law_402 ?_
        refine va_sld hx hb hX hbl hbA hw.2.2 g1 dL_law_403 ?_
        refine r_callF (wr := MW cI cZ am τ) (rest := []) C hw (c_X7_thrown l D cI cZ z s.heap.size ax (xs (x3 + 1).toNatClampNeg) σ r1 hX1) (cwV 1 hts gL_law_X7_thrown rfl rfl rfl (by decide +kernel) ⟨Nat.le_of_ble_eq_true rfl, Nat.le_of_ble_eq_true rfl⟩) (va_recv C.2.1 hw.right.1 (ci := 6) (q0 := 0) rfl (XWa_0 cI cZ ax σ)) rfl hl.1 rfl (Nat.le_of_ble_eq_true rfl) dL_law_404 ⟨by decide, by decide⟩ (fun H locs hw => ?_)
        have hw := hw.comm
        refine lv_aload_n hx hb dL_law_407 rfl (lv_at hl 2 rfl) ?_
        refine lv_aload_n hx hb dL_law_408 rfl (lv_at hl 0 rfl) ?_
        refine lv_iload_n hx hb dL_law_409 rfl (lv_at hl 3 rfl) ?_
        refine lv_iconst (v := 1) hx hb dL_law_410 (by decide) ?_
        refine lv_iadd hx hb dL_law_411 ?_
        refine va_sld hx hb hX hbl hbA hw.2.2 g1 dL_law_412 ?_
        refine r_callF (wr := XW cI cZ ax σ) (rest := [.int r1]) C hw (c_X8_thrown l D cI cZ z s.heap.size am (xs (x3 + 1).toNatClampNeg) τ r1 hM1) (cwV 1 hts gL_law_X8_thrown rfl rfl rfl (by decide +kernel) ⟨Nat.le_of_ble_eq_true rfl, Nat.le_of_ble_eq_true rfl⟩) (va_recv C.2.1 hw.right.1 (ci := 7) (q0 := 0) rfl (MWa_0 cI cZ am τ)) rfl hl.1 rfl (Nat.le_of_ble_eq_true rfl) dL_law_413 ⟨by decide, by decide⟩ (fun H locs hw => ?_)
        have hw := hw.comm
        refine lv_icmp_eq (tgt := 421) hx hb dL_law_416 (by decide) (fun c2 => ?_) (fun c2 => absurd rfl c2)
        exact J421 ax σ τ _ _ _ hRel hw hl
      refine lv_tableOut (tgt := 421) hx hb dL_law_33 (by have := lv_neT (a := 0) cs0 rfl; have := lv_neT (a := 1) cs1 rfl; have := lv_neT (a := 2) cs2 rfl; have := lv_neT (a := 3) cs3 rfl; have := lv_neT (a := 4) cs4 rfl; have := lv_neT (a := 5) cs5 rfl; have := lv_neT (a := 6) cs6 rfl; have := lv_neT (a := 7) cs7 rfl; have := lv_neT (a := 8) cs8 rfl; omega) (by decide) ?_
      exact J421 ax σ τ _ _ _ hRel hw hl
