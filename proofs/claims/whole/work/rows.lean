section
-- ===== PART A: goes FIRST, ahead of the names: the tables' words, and 'selects' of the private methods out of them =====
/-- a private method of a class that the tables say can be made, by its rows of tables_1 -/
def lw_okq (q : MethodName × Nat) : Prop := (q.1.cls ≠ "java/lang/invoke/MethodHandle" ∧ q.1.cls ≠ "java/lang/invoke/VarHandle") ∧ Cond.instantiable q.1.cls q.2 ∈ tables_1 ∧ Cond.privateMethod q.1 ∈ tables_1 ∧ Cond.instanceMethod q.1 ∈ tables_1
theorem lw_p0 : lw_okq (⟨"CodeImages$Classes", "readClass", "(LCodeImages$Source;I)V"⟩, 7) := ⟨⟨by decide +kernel, by decide +kernel⟩, List.mem_of_getElem? (i := 54) (by decide +kernel), List.mem_of_getElem? (i := 215) (by decide +kernel), List.mem_of_getElem? (i := 216) (by decide +kernel)⟩
theorem lw_p1 : lw_okq (⟨"CodeImages$Classes", "inherit", "(I)V"⟩, 7) := ⟨⟨by decide +kernel, by decide +kernel⟩, List.mem_of_getElem? (i := 54) (by decide +kernel), List.mem_of_getElem? (i := 228) (by decide +kernel), List.mem_of_getElem? (i := 229) (by decide +kernel)⟩
theorem lw_p2 : lw_okq (⟨"CodeImages$Classes", "readFields", "(LCodeImages$Source;I)V"⟩, 7) := ⟨⟨by decide +kernel, by decide +kernel⟩, List.mem_of_getElem? (i := 54) (by decide +kernel), List.mem_of_getElem? (i := 248) (by decide +kernel), List.mem_of_getElem? (i := 249) (by decide +kernel)⟩
theorem lw_p3 : lw_okq (⟨"CodeImages$Classes", "readSlots", "(LCodeImages$Source;I)V"⟩, 7) := ⟨⟨by decide +kernel, by decide +kernel⟩, List.mem_of_getElem? (i := 54) (by decide +kernel), List.mem_of_getElem? (i := 256) (by decide +kernel), List.mem_of_getElem? (i := 257) (by decide +kernel)⟩
theorem lw_p4 : lw_okq (⟨"CodeImages$Methods", "readHead", "(LCodeImages$Source;II)V"⟩, 10) := ⟨⟨by decide +kernel, by decide +kernel⟩, List.mem_of_getElem? (i := 82) (by decide +kernel), List.mem_of_getElem? (i := 286) (by decide +kernel), List.mem_of_getElem? (i := 287) (by decide +kernel)⟩
theorem lw_p5 : lw_okq (⟨"CodeImages$Methods", "readParameters", "(LCodeImages$Source;II)V"⟩, 10) := ⟨⟨by decide +kernel, by decide +kernel⟩, List.mem_of_getElem? (i := 82) (by decide +kernel), List.mem_of_getElem? (i := 291) (by decide +kernel), List.mem_of_getElem? (i := 292) (by decide +kernel)⟩
theorem lw_p6 : lw_okq (⟨"CodeImages$Code", "readInstruction", "(LCodeImages$Source;LCodeImages$Classes;II)V"⟩, 5) := ⟨⟨by decide +kernel, by decide +kernel⟩, List.mem_of_getElem? (i := 88) (by decide +kernel), List.mem_of_getElem? (i := 312) (by decide +kernel), List.mem_of_getElem? (i := 313) (by decide +kernel)⟩
theorem lw_p7 : lw_okq (⟨"CodeImages$Code", "markBegin", "(I)V"⟩, 5) := ⟨⟨by decide +kernel, by decide +kernel⟩, List.mem_of_getElem? (i := 88) (by decide +kernel), List.mem_of_getElem? (i := 339) (by decide +kernel), List.mem_of_getElem? (i := 340) (by decide +kernel)⟩
theorem lw_p8 : lw_okq (⟨"CodeImages$Methods", "readFirst", "(LCodeImages$Source;)V"⟩, 10) := ⟨⟨by decide +kernel, by decide +kernel⟩, List.mem_of_getElem? (i := 82) (by decide +kernel), List.mem_of_getElem? (i := 369) (by decide +kernel), List.mem_of_getElem? (i := 370) (by decide +kernel)⟩
theorem lw_p9 : lw_okq (⟨"CodeImages$Methods", "has", "(I)Z"⟩, 10) := ⟨⟨by decide +kernel, by decide +kernel⟩, List.mem_of_getElem? (i := 82) (by decide +kernel), List.mem_of_getElem? (i := 374) (by decide +kernel), List.mem_of_getElem? (i := 375) (by decide +kernel)⟩
theorem lw_p10 : lw_okq (⟨"CodeImages$Methods", "misfitSlot", "(LCodeImages$Classes;I)I"⟩, 10) := ⟨⟨by decide +kernel, by decide +kernel⟩, List.mem_of_getElem? (i := 82) (by decide +kernel), List.mem_of_getElem? (i := 390) (by decide +kernel), List.mem_of_getElem? (i := 391) (by decide +kernel)⟩
theorem lw_p11 : lw_okq (⟨"CodeImages$Methods", "fitsSlot", "(LCodeImages$Classes;II)Z"⟩, 10) := ⟨⟨by decide +kernel, by decide +kernel⟩, List.mem_of_getElem? (i := 82) (by decide +kernel), List.mem_of_getElem? (i := 398) (by decide +kernel), List.mem_of_getElem? (i := 399) (by decide +kernel)⟩
theorem lw_p12 : lw_okq (⟨"CodeImages$Methods", "standsFor", "(II)Z"⟩, 10) := ⟨⟨by decide +kernel, by decide +kernel⟩, List.mem_of_getElem? (i := 82) (by decide +kernel), List.mem_of_getElem? (i := 407) (by decide +kernel), List.mem_of_getElem? (i := 408) (by decide +kernel)⟩
theorem lw_p13 : lw_okq (⟨"CodeImages$Methods", "parameterType", "(II)I"⟩, 10) := ⟨⟨by decide +kernel, by decide +kernel⟩, List.mem_of_getElem? (i := 82) (by decide +kernel), List.mem_of_getElem? (i := 411) (by decide +kernel), List.mem_of_getElem? (i := 412) (by decide +kernel)⟩
theorem lw_p14 : lw_okq (⟨"CodeImagesModel", "readAll", "()Z"⟩, 28) := ⟨⟨by decide +kernel, by decide +kernel⟩, List.mem_of_getElem? (i := 537) (by decide +kernel), List.mem_of_getElem? (i := 637) (by decide +kernel), List.mem_of_getElem? (i := 638) (by decide +kernel)⟩
theorem lw_p15 : lw_okq (⟨"CodeImagesModel", "over", "(II)Z"⟩, 28) := ⟨⟨by decide +kernel, by decide +kernel⟩, List.mem_of_getElem? (i := 537) (by decide +kernel), List.mem_of_getElem? (i := 641) (by decide +kernel), List.mem_of_getElem? (i := 642) (by decide +kernel)⟩
def lw_privs_1 : List (MethodName × Nat) := [(⟨"CodeImages$Classes", "readClass", "(LCodeImages$Source;I)V"⟩, 7), (⟨"CodeImages$Classes", "inherit", "(I)V"⟩, 7), (⟨"CodeImages$Classes", "readFields", "(LCodeImages$Source;I)V"⟩, 7), (⟨"CodeImages$Classes", "readSlots", "(LCodeImages$Source;I)V"⟩, 7), (⟨"CodeImages$Methods", "readHead", "(LCodeImages$Source;II)V"⟩, 10), (⟨"CodeImages$Methods", "readParameters", "(LCodeImages$Source;II)V"⟩, 10), (⟨"CodeImages$Code", "readInstruction", "(LCodeImages$Source;LCodeImages$Classes;II)V"⟩, 5), (⟨"CodeImages$Code", "markBegin", "(I)V"⟩, 5), (⟨"CodeImages$Methods", "readFirst", "(LCodeImages$Source;)V"⟩, 10), (⟨"CodeImages$Methods", "has", "(I)Z"⟩, 10), (⟨"CodeImages$Methods", "misfitSlot", "(LCodeImages$Classes;I)I"⟩, 10), (⟨"CodeImages$Methods", "fitsSlot", "(LCodeImages$Classes;II)Z"⟩, 10), (⟨"CodeImages$Methods", "standsFor", "(II)Z"⟩, 10), (⟨"CodeImages$Methods", "parameterType", "(II)I"⟩, 10), (⟨"CodeImagesModel", "readAll", "()Z"⟩, 28), (⟨"CodeImagesModel", "over", "(II)Z"⟩, 28)]
theorem lw_r1 : ∀ q ∈ lw_privs_1, lw_okq q := List.forall_mem_cons.mpr ⟨lw_p0, List.forall_mem_cons.mpr ⟨lw_p1, List.forall_mem_cons.mpr ⟨lw_p2, List.forall_mem_cons.mpr ⟨lw_p3, List.forall_mem_cons.mpr ⟨lw_p4, List.forall_mem_cons.mpr ⟨lw_p5, List.forall_mem_cons.mpr ⟨lw_p6, List.forall_mem_cons.mpr ⟨lw_p7, List.forall_mem_cons.mpr ⟨lw_p8, List.forall_mem_cons.mpr ⟨lw_p9, List.forall_mem_cons.mpr ⟨lw_p10, List.forall_mem_cons.mpr ⟨lw_p11, List.forall_mem_cons.mpr ⟨lw_p12, List.forall_mem_cons.mpr ⟨lw_p13, List.forall_mem_cons.mpr ⟨lw_p14, List.forall_mem_cons.mpr ⟨lw_p15, fun _ h => absurd h List.not_mem_nil⟩⟩⟩⟩⟩⟩⟩⟩⟩⟩⟩⟩⟩⟩⟩⟩
theorem lw_p16 : lw_okq (⟨"CodeImagesModel", "here", "()I"⟩, 28) := ⟨⟨by decide +kernel, by decide +kernel⟩, List.mem_of_getElem? (i := 537) (by decide +kernel), List.mem_of_getElem? (i := 645) (by decide +kernel), List.mem_of_getElem? (i := 646) (by decide +kernel)⟩
theorem lw_p17 : lw_okq (⟨"CodeImagesModel", "bad", "(I)Z"⟩, 28) := ⟨⟨by decide +kernel, by decide +kernel⟩, List.mem_of_getElem? (i := 537) (by decide +kernel), List.mem_of_getElem? (i := 649) (by decide +kernel), List.mem_of_getElem? (i := 650) (by decide +kernel)⟩
theorem lw_p18 : lw_okq (⟨"CodeImagesModel", "last", "()I"⟩, 28) := ⟨⟨by decide +kernel, by decide +kernel⟩, List.mem_of_getElem? (i := 537) (by decide +kernel), List.mem_of_getElem? (i := 653) (by decide +kernel), List.mem_of_getElem? (i := 654) (by decide +kernel)⟩
theorem lw_p19 : lw_okq (⟨"CodeImagesModel", "readClass", "(I)Z"⟩, 28) := ⟨⟨by decide +kernel, by decide +kernel⟩, List.mem_of_getElem? (i := 537) (by decide +kernel), List.mem_of_getElem? (i := 657) (by decide +kernel), List.mem_of_getElem? (i := 658) (by decide +kernel)⟩
theorem lw_p20 : lw_okq (⟨"CodeImagesModel", "overType", "(Z)Z"⟩, 28) := ⟨⟨by decide +kernel, by decide +kernel⟩, List.mem_of_getElem? (i := 537) (by decide +kernel), List.mem_of_getElem? (i := 661) (by decide +kernel), List.mem_of_getElem? (i := 662) (by decide +kernel)⟩
theorem lw_p21 : lw_okq (⟨"CodeImagesModel", "overClass", "()Z"⟩, 28) := ⟨⟨by decide +kernel, by decide +kernel⟩, List.mem_of_getElem? (i := 537) (by decide +kernel), List.mem_of_getElem? (i := 665) (by decide +kernel), List.mem_of_getElem? (i := 666) (by decide +kernel)⟩
theorem lw_p22 : lw_okq (⟨"CodeImagesModel", "readMethod", "(I)Z"⟩, 28) := ⟨⟨by decide +kernel, by decide +kernel⟩, List.mem_of_getElem? (i := 537) (by decide +kernel), List.mem_of_getElem? (i := 669) (by decide +kernel), List.mem_of_getElem? (i := 670) (by decide +kernel)⟩
theorem lw_p23 : lw_okq (⟨"CodeImagesModel", "two", "(I)I"⟩, 28) := ⟨⟨by decide +kernel, by decide +kernel⟩, List.mem_of_getElem? (i := 537) (by decide +kernel), List.mem_of_getElem? (i := 673) (by decide +kernel), List.mem_of_getElem? (i := 674) (by decide +kernel)⟩
theorem lw_p24 : lw_okq (⟨"CodeImagesModel", "readInstruction", "(II)Z"⟩, 28) := ⟨⟨by decide +kernel, by decide +kernel⟩, List.mem_of_getElem? (i := 537) (by decide +kernel), List.mem_of_getElem? (i := 677) (by decide +kernel), List.mem_of_getElem? (i := 678) (by decide +kernel)⟩
theorem lw_p25 : lw_okq (⟨"CodeImagesModel", "checkSlots", "()V"⟩, 28) := ⟨⟨by decide +kernel, by decide +kernel⟩, List.mem_of_getElem? (i := 537) (by decide +kernel), List.mem_of_getElem? (i := 684) (by decide +kernel), List.mem_of_getElem? (i := 685) (by decide +kernel)⟩
theorem lw_p26 : lw_okq (⟨"CodeImagesModel", "isLike", "(II)Z"⟩, 28) := ⟨⟨by decide +kernel, by decide +kernel⟩, List.mem_of_getElem? (i := 537) (by decide +kernel), List.mem_of_getElem? (i := 688) (by decide +kernel), List.mem_of_getElem? (i := 689) (by decide +kernel)⟩
theorem lw_p27 : lw_okq (⟨"CodeImagesModel", "note", "(IZ)V"⟩, 28) := ⟨⟨by decide +kernel, by decide +kernel⟩, List.mem_of_getElem? (i := 537) (by decide +kernel), List.mem_of_getElem? (i := 692) (by decide +kernel), List.mem_of_getElem? (i := 693) (by decide +kernel)⟩
theorem lw_p28 : lw_okq (⟨"CodeImagesModel", "checkCode", "(I)V"⟩, 28) := ⟨⟨by decide +kernel, by decide +kernel⟩, List.mem_of_getElem? (i := 537) (by decide +kernel), List.mem_of_getElem? (i := 696) (by decide +kernel), List.mem_of_getElem? (i := 697) (by decide +kernel)⟩
theorem lw_p29 : lw_okq (⟨"CodeImagesModel", "isBegin", "(II)Z"⟩, 28) := ⟨⟨by decide +kernel, by decide +kernel⟩, List.mem_of_getElem? (i := 537) (by decide +kernel), List.mem_of_getElem? (i := 700) (by decide +kernel), List.mem_of_getElem? (i := 701) (by decide +kernel)⟩
theorem lw_p30 : lw_okq (⟨"CodeImagesModel", "isClass", "(I)Z"⟩, 28) := ⟨⟨by decide +kernel, by decide +kernel⟩, List.mem_of_getElem? (i := 537) (by decide +kernel), List.mem_of_getElem? (i := 712) (by decide +kernel), List.mem_of_getElem? (i := 713) (by decide +kernel)⟩
theorem lw_p31 : lw_okq (⟨"CodeImagesModel", "isMethod", "(I)Z"⟩, 28) := ⟨⟨by decide +kernel, by decide +kernel⟩, List.mem_of_getElem? (i := 537) (by decide +kernel), List.mem_of_getElem? (i := 724) (by decide +kernel), List.mem_of_getElem? (i := 725) (by decide +kernel)⟩
def lw_privs_2 : List (MethodName × Nat) := [(⟨"CodeImagesModel", "here", "()I"⟩, 28), (⟨"CodeImagesModel", "bad", "(I)Z"⟩, 28), (⟨"CodeImagesModel", "last", "()I"⟩, 28), (⟨"CodeImagesModel", "readClass", "(I)Z"⟩, 28), (⟨"CodeImagesModel", "overType", "(Z)Z"⟩, 28), (⟨"CodeImagesModel", "overClass", "()Z"⟩, 28), (⟨"CodeImagesModel", "readMethod", "(I)Z"⟩, 28), (⟨"CodeImagesModel", "two", "(I)I"⟩, 28), (⟨"CodeImagesModel", "readInstruction", "(II)Z"⟩, 28), (⟨"CodeImagesModel", "checkSlots", "()V"⟩, 28), (⟨"CodeImagesModel", "isLike", "(II)Z"⟩, 28), (⟨"CodeImagesModel", "note", "(IZ)V"⟩, 28), (⟨"CodeImagesModel", "checkCode", "(I)V"⟩, 28), (⟨"CodeImagesModel", "isBegin", "(II)Z"⟩, 28), (⟨"CodeImagesModel", "isClass", "(I)Z"⟩, 28), (⟨"CodeImagesModel", "isMethod", "(I)Z"⟩, 28)]
theorem lw_r2 : ∀ q ∈ lw_privs_2, lw_okq q := List.forall_mem_cons.mpr ⟨lw_p16, List.forall_mem_cons.mpr ⟨lw_p17, List.forall_mem_cons.mpr ⟨lw_p18, List.forall_mem_cons.mpr ⟨lw_p19, List.forall_mem_cons.mpr ⟨lw_p20, List.forall_mem_cons.mpr ⟨lw_p21, List.forall_mem_cons.mpr ⟨lw_p22, List.forall_mem_cons.mpr ⟨lw_p23, List.forall_mem_cons.mpr ⟨lw_p24, List.forall_mem_cons.mpr ⟨lw_p25, List.forall_mem_cons.mpr ⟨lw_p26, List.forall_mem_cons.mpr ⟨lw_p27, List.forall_mem_cons.mpr ⟨lw_p28, List.forall_mem_cons.mpr ⟨lw_p29, List.forall_mem_cons.mpr ⟨lw_p30, List.forall_mem_cons.mpr ⟨lw_p31, fun _ h => absurd h List.not_mem_nil⟩⟩⟩⟩⟩⟩⟩⟩⟩⟩⟩⟩⟩⟩⟩⟩
theorem lw_p32 : lw_okq (⟨"CodeImagesModel", "counted", "(II)I"⟩, 28) := ⟨⟨by decide +kernel, by decide +kernel⟩, List.mem_of_getElem? (i := 537) (by decide +kernel), List.mem_of_getElem? (i := 728) (by decide +kernel), List.mem_of_getElem? (i := 729) (by decide +kernel)⟩
def lw_privs_3 : List (MethodName × Nat) := [(⟨"CodeImagesModel", "counted", "(II)I"⟩, 28)]
theorem lw_r3 : ∀ q ∈ lw_privs_3, lw_okq q := List.forall_mem_cons.mpr ⟨lw_p32, fun _ h => absurd h List.not_mem_nil⟩
def lw_privs : List (MethodName × Nat) := lw_privs_1 ++ (lw_privs_2 ++ (lw_privs_3))
def lw_tbl : List Cond := k2_sels lw_privs ++ tables_1
theorem lw_privs_ok : ∀ q ∈ lw_privs, lw_okq q := by
  show ∀ q ∈ lw_privs_1 ++ (lw_privs_2 ++ (lw_privs_3)), lw_okq q
  exact List.forall_mem_append.mpr ⟨lw_r1, List.forall_mem_append.mpr ⟨lw_r2, lw_r3⟩⟩
end
section
/-! ===== BEGIN words of one list among another's, by their places ===== -/
theorem goodIn_r {big : List Cond} (ws : List Cond) (ps : List Nat) (hp : ws = ps.filterMap (fun i => big[i]?)) (h : ws.all goodWord = true) : GoodIn big ws := by
  intro w hw
  have h1 := List.all_eq_true.mp h w hw
  rw [hp] at hw
  obtain ⟨i, -, hi⟩ := List.mem_filterMap.mp hw
  have hm : w ∈ big := by first | exact List.mem_of_getElem? hi | exact List.getElem?_mem hi
  exact ⟨hm, good_of_word h1⟩
theorem goodIn_app {big a b : List Cond} (ha : GoodIn big a) (hb : GoodIn big b) : GoodIn big (a ++ b) := fun w h => (List.mem_append.mp h).elim (ha w) (hb w)
theorem goodIn_ca {big a b : List Cond} {c : Cond} (ha : GoodIn big (c :: a)) (hb : GoodIn big b) : GoodIn big (c :: (a ++ b)) := fun w h => (List.mem_cons.mp h).elim (fun e => ha w (List.mem_cons.mpr (Or.inl e))) (fun h => (List.mem_append.mp h).elim (fun h => ha w (List.mem_cons.mpr (Or.inr h))) (hb w))
theorem goodIn_sub {big ws : List Cond} (hm : ∀ w ∈ ws, w ∈ big) (h : ws.all goodWord = true) : GoodIn big ws := fun w hw => ⟨hm w hw, good_of_word (List.all_eq_true.mp h w hw)⟩
/-! ===== END ===== -/

/-! ===== BEGIN printed: names, fields, word lists, decode rows ===== -/
def RX0 : String := "CodeImages$Classes"
def TX0 : u_T := fun k => match k with
  | 0 => ("CodeImages$Classes", "count", "I", false)
  | 1 => ("CodeImages$Classes", "uppers", "[I", true)
  | 2 => ("CodeImages$Classes", "fieldCounts", "[I", true)
  | 3 => ("CodeImages$Classes", "fieldTypes", "[I", true)
  | 4 => ("CodeImages$Classes", "slotMethods", "[I", true)
  | 5 => ("CodeImages$Classes", "slotPlaces", "[I", true)
  | _ => ("CodeImages$Classes", "faults", "[I", true)
def tyX0 : Nat → FieldType := fun k => match k with
  | 0 => .int
  | 1 => .array .int
  | 2 => .array .int
  | 3 => .array .int
  | 4 => .array .int
  | 5 => .array .int
  | _ => .array .int
abbrev wsX00 : List Cond := u_ws RX0 TX0 7
theorem nmX0 : ∀ a, a < 7 → ∀ b, b < 7 → a ≠ b → (TX0 a).2.1 ≠ (TX0 b).2.1 := by decide +kernel
theorem tyX0_ok : ∀ k, k < 7 → parseFieldDescriptor (TX0 k).2.2.1 = some (tyX0 k) := by decide +kernel
abbrev cX0_init : ByteArray := prog_2_method_1_code
def yX0_init : MethodName := ⟨RX0, "<init>", "()V"⟩
abbrev cX0_clear : ByteArray := prog_2_method_2_code
def yX0_clear : MethodName := ⟨RX0, "clear", "()V"⟩
abbrev cX0_size : ByteArray := prog_2_method_3_code
def yX0_size : MethodName := ⟨RX0, "size", "()I"⟩
abbrev cX0_has : ByteArray := prog_2_method_4_code
def yX0_has : MethodName := ⟨RX0, "has", "(I)Z"⟩
abbrev cX0_read : ByteArray := prog_2_method_5_code
def yX0_read : MethodName := ⟨RX0, "read", "(LCodeImages$Source;)V"⟩
abbrev cX0_readClass : ByteArray := prog_2_method_6_code
def yX0_readClass : MethodName := ⟨RX0, "readClass", "(LCodeImages$Source;I)V"⟩
abbrev cX0_inherit : ByteArray := prog_2_method_7_code
def yX0_inherit : MethodName := ⟨RX0, "inherit", "(I)V"⟩
abbrev cX0_readFields : ByteArray := prog_2_method_8_code
def yX0_readFields : MethodName := ⟨RX0, "readFields", "(LCodeImages$Source;I)V"⟩
abbrev cX0_readSlots : ByteArray := prog_2_method_9_code
def yX0_readSlots : MethodName := ⟨RX0, "readSlots", "(LCodeImages$Source;I)V"⟩
abbrev cX0_upper : ByteArray := prog_2_method_10_code
def yX0_upper : MethodName := ⟨RX0, "upper", "(I)I"⟩
abbrev cX0_fields : ByteArray := prog_2_method_11_code
def yX0_fields : MethodName := ⟨RX0, "fields", "(I)I"⟩
abbrev cX0_fieldType : ByteArray := prog_2_method_12_code
def yX0_fieldType : MethodName := ⟨RX0, "fieldType", "(II)I"⟩
abbrev cX0_slotMethod : ByteArray := prog_2_method_13_code
def yX0_slotMethod : MethodName := ⟨RX0, "slotMethod", "(II)I"⟩
abbrev cX0_slotPlace : ByteArray := prog_2_method_14_code
def yX0_slotPlace : MethodName := ⟨RX0, "slotPlace", "(II)I"⟩
abbrev cX0_reaches : ByteArray := prog_2_method_15_code
def yX0_reaches : MethodName := ⟨RX0, "reaches", "(II)Z"⟩
abbrev cX0_fault : ByteArray := prog_2_method_16_code
def yX0_fault : MethodName := ⟨RX0, "fault", "(I)I"⟩
def RX1 : String := "CodeImages$Code"
def TX1 : u_T := fun k => match k with
  | 0 => ("CodeImages$Code", "total", "I", false)
  | 1 => ("CodeImages$Code", "starts", "[I", true)
  | 2 => ("CodeImages$Code", "lengths", "[I", true)
  | 3 => ("CodeImages$Code", "counts", "[I", true)
  | _ => ("CodeImages$Code", "begins", "[I", true)
def tyX1 : Nat → FieldType := fun k => match k with
  | 0 => .int
  | 1 => .array .int
  | 2 => .array .int
  | 3 => .array .int
  | _ => .array .int
abbrev wsX10 : List Cond := u_ws RX1 TX1 5
theorem nmX1 : ∀ a, a < 5 → ∀ b, b < 5 → a ≠ b → (TX1 a).2.1 ≠ (TX1 b).2.1 := by decide +kernel
theorem tyX1_ok : ∀ k, k < 5 → parseFieldDescriptor (TX1 k).2.2.1 = some (tyX1 k) := by decide +kernel
abbrev cX1_init : ByteArray := prog_3_method_1_code
def yX1_init : MethodName := ⟨RX1, "<init>", "()V"⟩
abbrev cX1_clear : ByteArray := prog_3_method_2_code
def yX1_clear : MethodName := ⟨RX1, "clear", "()V"⟩
abbrev cX1_total : ByteArray := prog_3_method_3_code
def yX1_total : MethodName := ⟨RX1, "total", "()I"⟩
abbrev cX1_read : ByteArray := prog_3_method_4_code
def yX1_read : MethodName := ⟨RX1, "read", "(LCodeImages$Source;LCodeImages$Classes;II)V"⟩
abbrev cX1_readInstruction : ByteArray := prog_3_method_5_code
def yX1_readInstruction : MethodName := ⟨RX1, "readInstruction", "(LCodeImages$Source;LCodeImages$Classes;II)V"⟩
abbrev cX1_readOperand : ByteArray := prog_3_method_6_code
def yX1_readOperand : MethodName := ⟨RX1, "readOperand", "(LCodeImages$Source;LCodeImages$Classes;II)I"⟩
abbrev cX1_readSlot : ByteArray := prog_3_method_7_code
def yX1_readSlot : MethodName := ⟨RX1, "readSlot", "(LCodeImages$Source;LCodeImages$Classes;I)V"⟩
abbrev cX1_markBegin : ByteArray := prog_3_method_8_code
def yX1_markBegin : MethodName := ⟨RX1, "markBegin", "(I)V"⟩
abbrev cX1_beginsAt : ByteArray := prog_3_method_9_code
def yX1_beginsAt : MethodName := ⟨RX1, "beginsAt", "(II)Z"⟩
abbrev cX1_length : ByteArray := prog_3_method_10_code
def yX1_length : MethodName := ⟨RX1, "length", "(I)I"⟩
abbrev cX1_size : ByteArray := prog_3_method_11_code
def yX1_size : MethodName := ⟨RX1, "size", "(I)I"⟩
abbrev cX1_placeOf : ByteArray := prog_3_method_12_code
def yX1_placeOf : MethodName := ⟨RX1, "placeOf", "(LCodeImages$Source;II)I"⟩
abbrev cX1_fact : ByteArray := prog_3_method_13_code
def yX1_fact : MethodName := ⟨RX1, "fact", "(LCodeImages$Source;III)I"⟩
abbrev cX1_misfit : ByteArray := prog_3_method_14_code
def yX1_misfit : MethodName := ⟨RX1, "misfit", "(LCodeImages$Source;II)I"⟩
def RX2 : String := "CodeImages$Handlers"
def TX2 : u_T := fun k => match k with
  | 0 => ("CodeImages$Handlers", "starts", "[I", true)
  | _ => ("CodeImages$Handlers", "counts", "[I", true)
def tyX2 : Nat → FieldType := fun k => match k with
  | 0 => .array .int
  | _ => .array .int
abbrev wsX20 : List Cond := u_ws RX2 TX2 2
theorem nmX2 : ∀ a, a < 2 → ∀ b, b < 2 → a ≠ b → (TX2 a).2.1 ≠ (TX2 b).2.1 := by decide +kernel
theorem tyX2_ok : ∀ k, k < 2 → parseFieldDescriptor (TX2 k).2.2.1 = some (tyX2 k) := by decide +kernel
abbrev cX2_init : ByteArray := prog_4_method_1_code
def yX2_init : MethodName := ⟨RX2, "<init>", "()V"⟩
abbrev cX2_read : ByteArray := prog_4_method_2_code
def yX2_read : MethodName := ⟨RX2, "read", "(LCodeImages$Source;II)V"⟩
abbrev cX2_size : ByteArray := prog_4_method_3_code
def yX2_size : MethodName := ⟨RX2, "size", "(I)I"⟩
abbrev cX2_fact : ByteArray := prog_4_method_4_code
def yX2_fact : MethodName := ⟨RX2, "fact", "(LCodeImages$Source;III)I"⟩
abbrev cX2_misfit : ByteArray := prog_4_method_5_code
def yX2_misfit : MethodName := ⟨RX2, "misfit", "(LCodeImages$Source;LCodeImages$Code;I)I"⟩
def RX3 : String := "CodeImages$Methods"
def TX3 : u_T := fun k => match k with
  | 0 => ("CodeImages$Methods", "count", "I", false)
  | 1 => ("CodeImages$Methods", "first", "I", false)
  | 2 => ("CodeImages$Methods", "owners", "[I", true)
  | 3 => ("CodeImages$Methods", "parameterCounts", "[I", true)
  | 4 => ("CodeImages$Methods", "parameterTypes", "[I", true)
  | 5 => ("CodeImages$Methods", "gives", "[I", true)
  | 6 => ("CodeImages$Methods", "locals", "[I", true)
  | 7 => ("CodeImages$Methods", "stacks", "[I", true)
  | 8 => ("CodeImages$Methods", "code", "LCodeImages$Code;", true)
  | _ => ("CodeImages$Methods", "handlers", "LCodeImages$Handlers;", true)
def tyX3 : Nat → FieldType := fun k => match k with
  | 0 => .int
  | 1 => .int
  | 2 => .array .int
  | 3 => .array .int
  | 4 => .array .int
  | 5 => .array .int
  | 6 => .array .int
  | 7 => .array .int
  | 8 => .object "CodeImages$Code"
  | _ => .object "CodeImages$Handlers"
abbrev wsX30 : List Cond := u_ws RX3 TX3 10
theorem nmX3 : ∀ a, a < 10 → ∀ b, b < 10 → a ≠ b → (TX3 a).2.1 ≠ (TX3 b).2.1 := by decide +kernel
theorem tyX3_ok : ∀ k, k < 10 → parseFieldDescriptor (TX3 k).2.2.1 = some (tyX3 k) := by decide +kernel
abbrev cX3_init : ByteArray := prog_5_method_1_code
def yX3_init : MethodName := ⟨RX3, "<init>", "()V"⟩
abbrev cX3_clear : ByteArray := prog_5_method_2_code
def yX3_clear : MethodName := ⟨RX3, "clear", "()V"⟩
abbrev cX3_size : ByteArray := prog_5_method_3_code
def yX3_size : MethodName := ⟨RX3, "size", "()I"⟩
abbrev cX3_first : ByteArray := prog_5_method_4_code
def yX3_first : MethodName := ⟨RX3, "first", "()I"⟩
abbrev cX3_instructions : ByteArray := prog_5_method_5_code
def yX3_instructions : MethodName := ⟨RX3, "instructions", "()I"⟩
abbrev cX3_has : ByteArray := prog_5_method_6_code
def yX3_has : MethodName := ⟨RX3, "has", "(I)Z"⟩
abbrev cX3_read : ByteArray := prog_5_method_7_code
def yX3_read : MethodName := ⟨RX3, "read", "(LCodeImages$Source;LCodeImages$Classes;)V"⟩
abbrev cX3_readHead : ByteArray := prog_5_method_8_code
def yX3_readHead : MethodName := ⟨RX3, "readHead", "(LCodeImages$Source;II)V"⟩
abbrev cX3_readParameters : ByteArray := prog_5_method_9_code
def yX3_readParameters : MethodName := ⟨RX3, "readParameters", "(LCodeImages$Source;II)V"⟩
abbrev cX3_readFirst : ByteArray := prog_5_method_10_code
def yX3_readFirst : MethodName := ⟨RX3, "readFirst", "(LCodeImages$Source;)V"⟩
abbrev cX3_fact : ByteArray := prog_5_method_11_code
def yX3_fact : MethodName := ⟨RX3, "fact", "(LCodeImages$Source;III)I"⟩
abbrev cX3_parameterType : ByteArray := prog_5_method_12_code
def yX3_parameterType : MethodName := ⟨RX3, "parameterType", "(II)I"⟩
abbrev cX3_handlerFact : ByteArray := prog_5_method_13_code
def yX3_handlerFact : MethodName := ⟨RX3, "handlerFact", "(LCodeImages$Source;III)I"⟩
abbrev cX3_instructionFact : ByteArray := prog_5_method_14_code
def yX3_instructionFact : MethodName := ⟨RX3, "instructionFact", "(LCodeImages$Source;III)I"⟩
abbrev cX3_misfit : ByteArray := prog_5_method_15_code
def yX3_misfit : MethodName := ⟨RX3, "misfit", "(LCodeImages$Source;LCodeImages$Classes;)I"⟩
abbrev cX3_misfitSlot : ByteArray := prog_5_method_16_code
def yX3_misfitSlot : MethodName := ⟨RX3, "misfitSlot", "(LCodeImages$Classes;I)I"⟩
abbrev cX3_fitsSlot : ByteArray := prog_5_method_17_code
def yX3_fitsSlot : MethodName := ⟨RX3, "fitsSlot", "(LCodeImages$Classes;II)Z"⟩
abbrev cX3_standsFor : ByteArray := prog_5_method_18_code
def yX3_standsFor : MethodName := ⟨RX3, "standsFor", "(II)Z"⟩
def RX4 : String := "CodeImages$Operands"
def TX4 : u_T := fun k => match k with
  | _ => ("", "", "", false)
def tyX4 : Nat → FieldType := fun k => match k with
  | _ => .int
abbrev wsX40 : List Cond := u_ws RX4 TX4 0
theorem nmX4 : ∀ a, a < 0 → ∀ b, b < 0 → a ≠ b → (TX4 a).2.1 ≠ (TX4 b).2.1 := by decide +kernel
theorem tyX4_ok : ∀ k, k < 0 → parseFieldDescriptor (TX4 k).2.2.1 = some (tyX4 k) := by decide +kernel
abbrev cX4_first : ByteArray := prog_6_method_2_code
def yX4_first : MethodName := ⟨RX4, "first", "(I)I"⟩
abbrev cX4_second : ByteArray := prog_6_method_3_code
def yX4_second : MethodName := ⟨RX4, "second", "(I)I"⟩
abbrev cX4_width : ByteArray := prog_6_method_4_code
def yX4_width : MethodName := ⟨RX4, "width", "(I)I"⟩
abbrev cX4_length : ByteArray := prog_6_method_5_code
def yX4_length : MethodName := ⟨RX4, "length", "(I)I"⟩
def RX5 : String := "CodeImages$Source"
def TX5 : u_T := fun k => match k with
  | 0 => ("CodeImages$Source", "words", "[I", false)
  | 1 => ("CodeImages$Source", "length", "I", false)
  | 2 => ("CodeImages$Source", "at", "I", false)
  | _ => ("CodeImages$Source", "stopped", "Z", false)
def tyX5 : Nat → FieldType := fun k => match k with
  | 0 => .array .int
  | 1 => .int
  | 2 => .int
  | _ => .boolean
abbrev wsX50 : List Cond := u_ws RX5 TX5 4
theorem nmX5 : ∀ a, a < 4 → ∀ b, b < 4 → a ≠ b → (TX5 a).2.1 ≠ (TX5 b).2.1 := by decide +kernel
theorem tyX5_ok : ∀ k, k < 4 → parseFieldDescriptor (TX5 k).2.2.1 = some (tyX5 k) := by decide +kernel
abbrev cX5_init : ByteArray := prog_7_method_1_code
def yX5_init : MethodName := ⟨RX5, "<init>", "()V"⟩
abbrev cX5_take : ByteArray := prog_7_method_2_code
def yX5_take : MethodName := ⟨RX5, "take", "(LCodeImages$Tape;I)Z"⟩
abbrev cX5_place : ByteArray := prog_7_method_3_code
def yX5_place : MethodName := ⟨RX5, "place", "()I"⟩
abbrev cX5_stopped : ByteArray := prog_7_method_4_code
def yX5_stopped : MethodName := ⟨RX5, "stopped", "()Z"⟩
abbrev cX5_stopAt : ByteArray := prog_7_method_5_code
def yX5_stopAt : MethodName := ⟨RX5, "stopAt", "(I)V"⟩
abbrev cX5_close : ByteArray := prog_7_method_6_code
def yX5_close : MethodName := ⟨RX5, "close", "()V"⟩
abbrev cX5_next : ByteArray := prog_7_method_7_code
def yX5_next : MethodName := ⟨RX5, "next", "()I"⟩
abbrev cX5_number : ByteArray := prog_7_method_8_code
def yX5_number : MethodName := ⟨RX5, "number", "(II)I"⟩
abbrev cX5_numberOrNothing : ByteArray := prog_7_method_9_code
def yX5_numberOrNothing : MethodName := ⟨RX5, "numberOrNothing", "(I)I"⟩
abbrev cX5_type : ByteArray := prog_7_method_10_code
def yX5_type : MethodName := ⟨RX5, "type", "(I)I"⟩
abbrev cX5_typeOrNothing : ByteArray := prog_7_method_11_code
def yX5_typeOrNothing : MethodName := ⟨RX5, "typeOrNothing", "(I)I"⟩
abbrev cX5_pair : ByteArray := prog_7_method_12_code
def yX5_pair : MethodName := ⟨RX5, "pair", "(II)I"⟩
abbrev cX5_skip : ByteArray := prog_7_method_13_code
def yX5_skip : MethodName := ⟨RX5, "skip", "(I)V"⟩
abbrev cX5_byteAt : ByteArray := prog_7_method_14_code
def yX5_byteAt : MethodName := ⟨RX5, "byteAt", "(I)I"⟩
abbrev cX5_valueAt : ByteArray := prog_7_method_15_code
def yX5_valueAt : MethodName := ⟨RX5, "valueAt", "(II)I"⟩
def RX6 : String := "CodeImages$Tape"
def TX6 : u_T := fun k => match k with
  | 0 => ("CodeImages$Tape", "words", "[I", false)
  | _ => ("CodeImages$Tape", "used", "I", false)
def tyX6 : Nat → FieldType := fun k => match k with
  | 0 => .array .int
  | _ => .int
abbrev wsX60 : List Cond := u_ws RX6 TX6 2
theorem nmX6 : ∀ a, a < 2 → ∀ b, b < 2 → a ≠ b → (TX6 a).2.1 ≠ (TX6 b).2.1 := by decide +kernel
theorem tyX6_ok : ∀ k, k < 2 → parseFieldDescriptor (TX6 k).2.2.1 = some (tyX6 k) := by decide +kernel
abbrev cX6_init : ByteArray := prog_8_method_1_code
def yX6_init : MethodName := ⟨RX6, "<init>", "()V"⟩
abbrev cX6_add : ByteArray := prog_8_method_2_code
def yX6_add : MethodName := ⟨RX6, "add", "(IIIII)Z"⟩
abbrev cX6_length : ByteArray := prog_8_method_3_code
def yX6_length : MethodName := ⟨RX6, "length", "()I"⟩
abbrev cX6_exchange : ByteArray := prog_8_method_4_code
def yX6_exchange : MethodName := ⟨RX6, "exchange", "([I)[I"⟩
abbrev cX6_clear : ByteArray := prog_8_method_5_code
def yX6_clear : MethodName := ⟨RX6, "clear", "()V"⟩
def RX7 : String := "CodeImages"
def TX7 : u_T := fun k => match k with
  | 0 => ("CodeImages", "tape", "LCodeImages$Tape;", true)
  | 1 => ("CodeImages", "image", "LCodeImages$Source;", true)
  | 2 => ("CodeImages", "classes", "LCodeImages$Classes;", true)
  | _ => ("CodeImages", "methods", "LCodeImages$Methods;", true)
def tyX7 : Nat → FieldType := fun k => match k with
  | 0 => .object "CodeImages$Tape"
  | 1 => .object "CodeImages$Source"
  | 2 => .object "CodeImages$Classes"
  | _ => .object "CodeImages$Methods"
abbrev wsX70 : List Cond := u_ws RX7 TX7 4
theorem nmX7 : ∀ a, a < 4 → ∀ b, b < 4 → a ≠ b → (TX7 a).2.1 ≠ (TX7 b).2.1 := by decide +kernel
theorem tyX7_ok : ∀ k, k < 4 → parseFieldDescriptor (TX7 k).2.2.1 = some (tyX7 k) := by decide +kernel
abbrev cX7_init : ByteArray := prog_1_method_1_code
def yX7_init : MethodName := ⟨RX7, "<init>", "()V"⟩
abbrev cX7_feed : ByteArray := prog_1_method_2_code
def yX7_feed : MethodName := ⟨RX7, "feed", "(IIIII)I"⟩
abbrev cX7_end : ByteArray := prog_1_method_3_code
def yX7_end : MethodName := ⟨RX7, "end", "(I)I"⟩
abbrev cX7_count : ByteArray := prog_1_method_4_code
def yX7_count : MethodName := ⟨RX7, "count", "(I)I"⟩
abbrev cX7_classOf : ByteArray := prog_1_method_5_code
def yX7_classOf : MethodName := ⟨RX7, "classOf", "(III)I"⟩
abbrev cX7_isA : ByteArray := prog_1_method_6_code
def yX7_isA : MethodName := ⟨RX7, "isA", "(II)Z"⟩
abbrev cX7_method : ByteArray := prog_1_method_7_code
def yX7_method : MethodName := ⟨RX7, "method", "(III)I"⟩
abbrev cX7_handler : ByteArray := prog_1_method_8_code
def yX7_handler : MethodName := ⟨RX7, "handler", "(III)I"⟩
abbrev cX7_instruction : ByteArray := prog_1_method_9_code
def yX7_instruction : MethodName := ⟨RX7, "instruction", "(III)I"⟩
abbrev cX7_thrown : ByteArray := prog_1_method_10_code
def yX7_thrown : MethodName := ⟨RX7, "thrown", "(I)I"⟩
def RX8 : String := "CodeImagesModel"
def TX8 : u_T := fun k => match k with
  | 0 => ("CodeImagesModel", "tape", "[I", true)
  | 1 => ("CodeImagesModel", "taped", "I", false)
  | 2 => ("CodeImagesModel", "image", "[I", true)
  | 3 => ("CodeImagesModel", "begins", "[Z", true)
  | 4 => ("CodeImagesModel", "size", "I", false)
  | 5 => ("CodeImagesModel", "place", "I", false)
  | 6 => ("CodeImagesModel", "wrong", "I", false)
  | 7 => ("CodeImagesModel", "there", "Z", false)
  | 8 => ("CodeImagesModel", "classes", "I", false)
  | 9 => ("CodeImagesModel", "uppers", "[I", true)
  | 10 => ("CodeImagesModel", "fieldCounts", "[I", true)
  | 11 => ("CodeImagesModel", "fieldTypes", "[I", true)
  | 12 => ("CodeImagesModel", "slots", "[I", true)
  | 13 => ("CodeImagesModel", "slotPlaces", "[I", true)
  | 14 => ("CodeImagesModel", "throwns", "[I", true)
  | 15 => ("CodeImagesModel", "methods", "I", false)
  | 16 => ("CodeImagesModel", "owners", "[I", true)
  | 17 => ("CodeImagesModel", "parameterCounts", "[I", true)
  | 18 => ("CodeImagesModel", "parameterTypes", "[I", true)
  | 19 => ("CodeImagesModel", "gives", "[I", true)
  | 20 => ("CodeImagesModel", "locals", "[I", true)
  | 21 => ("CodeImagesModel", "stacks", "[I", true)
  | 22 => ("CodeImagesModel", "codeAt", "[I", true)
  | 23 => ("CodeImagesModel", "codeSizes", "[I", true)
  | 24 => ("CodeImagesModel", "handlerCounts", "[I", true)
  | 25 => ("CodeImagesModel", "handlerAt", "[I", true)
  | 26 => ("CodeImagesModel", "instructions", "I", false)
  | _ => ("CodeImagesModel", "first", "I", false)
def tyX8 : Nat → FieldType := fun k => match k with
  | 0 => .array .int
  | 1 => .int
  | 2 => .array .int
  | 3 => .array .boolean
  | 4 => .int
  | 5 => .int
  | 6 => .int
  | 7 => .boolean
  | 8 => .int
  | 9 => .array .int
  | 10 => .array .int
  | 11 => .array .int
  | 12 => .array .int
  | 13 => .array .int
  | 14 => .array .int
  | 15 => .int
  | 16 => .array .int
  | 17 => .array .int
  | 18 => .array .int
  | 19 => .array .int
  | 20 => .array .int
  | 21 => .array .int
  | 22 => .array .int
  | 23 => .array .int
  | 24 => .array .int
  | 25 => .array .int
  | 26 => .int
  | _ => .int
abbrev wsX80 : List Cond := u_ws RX8 TX8 28
theorem nmX8 : ∀ a, a < 28 → ∀ b, b < 28 → a ≠ b → (TX8 a).2.1 ≠ (TX8 b).2.1 := by decide +kernel
theorem tyX8_ok : ∀ k, k < 28 → parseFieldDescriptor (TX8 k).2.2.1 = some (tyX8 k) := by decide +kernel
abbrev cX8_init : ByteArray := prog_10_method_1_code
def yX8_init : MethodName := ⟨RX8, "<init>", "()V"⟩
abbrev cX8_feed : ByteArray := prog_10_method_2_code
def yX8_feed : MethodName := ⟨RX8, "feed", "(IIIII)I"⟩
abbrev cX8_bad : ByteArray := prog_10_method_3_code
def yX8_bad : MethodName := ⟨RX8, "bad", "(I)Z"⟩
abbrev cX8_here : ByteArray := prog_10_method_4_code
def yX8_here : MethodName := ⟨RX8, "here", "()I"⟩
abbrev cX8_over : ByteArray := prog_10_method_5_code
def yX8_over : MethodName := ⟨RX8, "over", "(II)Z"⟩
abbrev cX8_last : ByteArray := prog_10_method_6_code
def yX8_last : MethodName := ⟨RX8, "last", "()I"⟩
abbrev cX8_two : ByteArray := prog_10_method_7_code
def yX8_two : MethodName := ⟨RX8, "two", "(I)I"⟩
abbrev cX8_overClass : ByteArray := prog_10_method_8_code
def yX8_overClass : MethodName := ⟨RX8, "overClass", "()Z"⟩
abbrev cX8_overType : ByteArray := prog_10_method_9_code
def yX8_overType : MethodName := ⟨RX8, "overType", "(Z)Z"⟩
abbrev cX8_readClass : ByteArray := prog_10_method_10_code
def yX8_readClass : MethodName := ⟨RX8, "readClass", "(I)Z"⟩
abbrev cX8_readMethod : ByteArray := prog_10_method_11_code
def yX8_readMethod : MethodName := ⟨RX8, "readMethod", "(I)Z"⟩
abbrev cX8_wide : ByteArray := prog_10_method_12_code
def yX8_wide : MethodName := ⟨RX8, "wide", "(I)I"⟩
abbrev cX8_readInstruction : ByteArray := prog_10_method_13_code
def yX8_readInstruction : MethodName := ⟨RX8, "readInstruction", "(II)Z"⟩
abbrev cX8_readAll : ByteArray := prog_10_method_14_code
def yX8_readAll : MethodName := ⟨RX8, "readAll", "()Z"⟩
abbrev cX8_note : ByteArray := prog_10_method_15_code
def yX8_note : MethodName := ⟨RX8, "note", "(IZ)V"⟩
abbrev cX8_isBegin : ByteArray := prog_10_method_16_code
def yX8_isBegin : MethodName := ⟨RX8, "isBegin", "(II)Z"⟩
abbrev cX8_isLike : ByteArray := prog_10_method_17_code
def yX8_isLike : MethodName := ⟨RX8, "isLike", "(II)Z"⟩
abbrev cX8_checkSlots : ByteArray := prog_10_method_18_code
def yX8_checkSlots : MethodName := ⟨RX8, "checkSlots", "()V"⟩
abbrev cX8_checkCode : ByteArray := prog_10_method_19_code
def yX8_checkCode : MethodName := ⟨RX8, "checkCode", "(I)V"⟩
abbrev cX8_end : ByteArray := prog_10_method_20_code
def yX8_end : MethodName := ⟨RX8, "end", "(I)I"⟩
abbrev cX8_count : ByteArray := prog_10_method_21_code
def yX8_count : MethodName := ⟨RX8, "count", "(I)I"⟩
abbrev cX8_isClass : ByteArray := prog_10_method_22_code
def yX8_isClass : MethodName := ⟨RX8, "isClass", "(I)Z"⟩
abbrev cX8_isMethod : ByteArray := prog_10_method_23_code
def yX8_isMethod : MethodName := ⟨RX8, "isMethod", "(I)Z"⟩
abbrev cX8_classOf : ByteArray := prog_10_method_24_code
def yX8_classOf : MethodName := ⟨RX8, "classOf", "(III)I"⟩
abbrev cX8_isA : ByteArray := prog_10_method_25_code
def yX8_isA : MethodName := ⟨RX8, "isA", "(II)Z"⟩
abbrev cX8_method : ByteArray := prog_10_method_26_code
def yX8_method : MethodName := ⟨RX8, "method", "(III)I"⟩
abbrev cX8_counted : ByteArray := prog_10_method_27_code
def yX8_counted : MethodName := ⟨RX8, "counted", "(II)I"⟩
abbrev cX8_handler : ByteArray := prog_10_method_28_code
def yX8_handler : MethodName := ⟨RX8, "handler", "(III)I"⟩
abbrev cX8_instruction : ByteArray := prog_10_method_29_code
def yX8_instruction : MethodName := ⟨RX8, "instruction", "(III)I"⟩
abbrev cX8_thrown : ByteArray := prog_10_method_30_code
def yX8_thrown : MethodName := ⟨RX8, "thrown", "(I)I"⟩
def RJ9 : String := "java/lang/Math"
def TJ9 : u_T := fun k => match k with
  | _ => ("", "", "", false)
def tyJ9 : Nat → FieldType := fun k => match k with
  | _ => .int
abbrev wsJ90 : List Cond := u_ws RJ9 TJ9 0
theorem nmJ9 : ∀ a, a < 0 → ∀ b, b < 0 → a ≠ b → (TJ9 a).2.1 ≠ (TJ9 b).2.1 := by decide +kernel
theorem tyJ9_ok : ∀ k, k < 0 → parseFieldDescriptor (TJ9 k).2.2.1 = some (tyJ9 k) := by decide +kernel
abbrev cJ9_max_7cf53 : ByteArray := prog_11_method_65_code
def yJ9_max_7cf53 : MethodName := ⟨RJ9, "max", "(II)I"⟩
def RJ7 : String := "java/util/Arrays"
def TJ7 : u_T := fun k => match k with
  | _ => ("", "", "", false)
def tyJ7 : Nat → FieldType := fun k => match k with
  | _ => .int
abbrev wsJ70 : List Cond := u_ws RJ7 TJ7 0
theorem nmJ7 : ∀ a, a < 0 → ∀ b, b < 0 → a ≠ b → (TJ7 a).2.1 ≠ (TJ7 b).2.1 := by decide +kernel
theorem tyJ7_ok : ∀ k, k < 0 → parseFieldDescriptor (TJ7 k).2.2.1 = some (tyJ7 k) := by decide +kernel
abbrev cJ7_fill_53178 : ByteArray := prog_12_method_103_code
def yJ7_fill_53178 : MethodName := ⟨RJ7, "fill", "([II)V"⟩
def RL : String := "CodeImagesLaw"
abbrev cL_law : ByteArray := code
def yL_law : MethodName := ⟨RL, "law", "([I)Z"⟩
def wsX0_init : List Cond := .code yX0_init cX0_init 1 none :: ([.methodLink RX0 3 objectInit, .instanceMethod objectInit, .code objectInit ⟨#[0xb1]⟩ 1 none, .arrayClass .int, .fieldLink RX0 11 "CodeImages$Classes" "uppers" "[I", .fieldLink RX0 15 "CodeImages$Classes" "fieldCounts" "[I", .fieldLink RX0 18 "CodeImages$Classes" "fieldTypes" "[I", .fieldLink RX0 21 "CodeImages$Classes" "slotMethods" "[I", .fieldLink RX0 24 "CodeImages$Classes" "slotPlaces" "[I", .fieldLink RX0 27 "CodeImages$Classes" "faults" "[I"] ++ wsX00)
def wsX0_clear : List Cond := .code yX0_clear cX0_clear 1 none :: ([.fieldLink RX0 30 "CodeImages$Classes" "count" "I"] ++ wsX00)
def wsX0_size : List Cond := .code yX0_size cX0_size 1 (some .int) :: ([.fieldLink RX0 30 "CodeImages$Classes" "count" "I"] ++ wsX00)
def wsX0_has : List Cond := .code yX0_has cX0_has 2 (some .boolean) :: ([.fieldLink RX0 30 "CodeImages$Classes" "count" "I"] ++ wsX00)
def wsX5_byteAt : List Cond := .code yX5_byteAt cX5_byteAt 3 (some .int) :: ([.fieldLink RX5 28 "CodeImages$Source" "length" "I", .fieldLink RX5 11 "CodeImages$Source" "words" "[I"] ++ wsX50)
def wsX5_number : List Cond := .code yX5_number cX5_number 4 (some .int) :: ([.fieldLink RX5 31 "CodeImages$Source" "at" "I", .fieldLink RX5 34 "CodeImages$Source" "stopped" "Z", .methodLink RX5 38 yX5_byteAt, .instanceMethod yX5_byteAt, .selects RX5 yX5_byteAt yX5_byteAt, .initialized RX5, .code yX5_byteAt cX5_byteAt 3 (some .int), .fieldLink RX5 28 "CodeImages$Source" "length" "I", .fieldLink RX5 11 "CodeImages$Source" "words" "[I"] ++ wsX50)
def wsX5_stopped : List Cond := .code yX5_stopped cX5_stopped 1 (some .boolean) :: ([.fieldLink RX5 34 "CodeImages$Source" "stopped" "Z"] ++ wsX50)
def wsX5_next : List Cond := .code yX5_next cX5_next 1 (some .int) :: ([.fieldLink RX5 31 "CodeImages$Source" "at" "I", .methodLink RX5 38 yX5_byteAt, .instanceMethod yX5_byteAt, .selects RX5 yX5_byteAt yX5_byteAt, .initialized RX5, .code yX5_byteAt cX5_byteAt 3 (some .int), .fieldLink RX5 28 "CodeImages$Source" "length" "I", .fieldLink RX5 11 "CodeImages$Source" "words" "[I"] ++ wsX50)
def wsX5_numberOrNothing : List Cond := .code yX5_numberOrNothing cX5_numberOrNothing 2 (some .int) :: ([.methodLink RX5 42 yX5_next, .instanceMethod yX5_next, .selects RX5 yX5_next yX5_next, .initialized RX5, .code yX5_next cX5_next 1 (some .int), .fieldLink RX5 31 "CodeImages$Source" "at" "I", .methodLink RX5 38 yX5_byteAt, .instanceMethod yX5_byteAt, .selects RX5 yX5_byteAt yX5_byteAt, .code yX5_byteAt cX5_byteAt 3 (some .int), .fieldLink RX5 28 "CodeImages$Source" "length" "I", .fieldLink RX5 11 "CodeImages$Source" "words" "[I", .methodLink RX5 45 yX5_number, .instanceMethod yX5_number, .selects RX5 yX5_number yX5_number, .code yX5_number cX5_number 4 (some .int), .fieldLink RX5 34 "CodeImages$Source" "stopped" "Z"] ++ wsX50)
def wsX0_fields : List Cond := .code yX0_fields cX0_fields 2 (some .int) :: ([.fieldLink RX0 15 "CodeImages$Classes" "fieldCounts" "[I", .methodLink RX0 83 yX0_has, .instanceMethod yX0_has, .selects RX0 yX0_has yX0_has, .initialized RX0, .code yX0_has cX0_has 2 (some .boolean), .fieldLink RX0 30 "CodeImages$Classes" "count" "I"] ++ wsX00)
def wsX0_fieldType : List Cond := .code yX0_fieldType cX0_fieldType 3 (some .int) :: ([.fieldLink RX0 18 "CodeImages$Classes" "fieldTypes" "[I", .methodLink RX0 67 yX0_fields, .instanceMethod yX0_fields, .selects RX0 yX0_fields yX0_fields, .initialized RX0, .code yX0_fields cX0_fields 2 (some .int), .fieldLink RX0 15 "CodeImages$Classes" "fieldCounts" "[I", .methodLink RX0 83 yX0_has, .instanceMethod yX0_has, .selects RX0 yX0_has yX0_has, .code yX0_has cX0_has 2 (some .boolean), .fieldLink RX0 30 "CodeImages$Classes" "count" "I"] ++ wsX00)
def wsX0_slotMethod : List Cond := .code yX0_slotMethod cX0_slotMethod 3 (some .int) :: ([.fieldLink RX0 21 "CodeImages$Classes" "slotMethods" "[I", .methodLink RX0 83 yX0_has, .instanceMethod yX0_has, .selects RX0 yX0_has yX0_has, .initialized RX0, .code yX0_has cX0_has 2 (some .boolean), .fieldLink RX0 30 "CodeImages$Classes" "count" "I"] ++ wsX00)
def wsX0_inherit_r1 : List Cond := [Cond.fieldLink RX0 11 "CodeImages$Classes" "uppers" "[I", Cond.methodLink RX0 40 Lib.Math.max.name, Cond.static Lib.Math.max.name, Cond.initialized "java/lang/Math", Cond.code Lib.Math.max.name Lib.Math.max.code 2 (some .int), Cond.fieldLink RX0 15 "CodeImages$Classes" "fieldCounts" "[I", Cond.fieldLink RX0 18 "CodeImages$Classes" "fieldTypes" "[I", Cond.fieldLink RX0 21 "CodeImages$Classes" "slotMethods" "[I", Cond.fieldLink RX0 24 "CodeImages$Classes" "slotPlaces" "[I", Cond.methodLink RX0 67 yX0_fields, Cond.instanceMethod yX0_fields, Cond.selects RX0 yX0_fields yX0_fields, Cond.initialized RX0, Cond.code yX0_fields cX0_fields 2 (some .int), Cond.methodLink RX0 83 yX0_has, Cond.instanceMethod yX0_has, Cond.selects RX0 yX0_has yX0_has, Cond.code yX0_has cX0_has 2 (some .boolean), Cond.fieldLink RX0 30 "CodeImages$Classes" "count" "I", Cond.methodLink RX0 70 yX0_fieldType, Cond.instanceMethod yX0_fieldType, Cond.selects RX0 yX0_fieldType yX0_fieldType, Cond.code yX0_fieldType cX0_fieldType 3 (some .int), Cond.methodLink RX0 73 yX0_slotMethod]
def wsX0_inherit_r2 : List Cond := [Cond.instanceMethod yX0_slotMethod, Cond.selects RX0 yX0_slotMethod yX0_slotMethod, Cond.code yX0_slotMethod cX0_slotMethod 3 (some .int)]
def wsX0_inherit : List Cond := .code yX0_inherit cX0_inherit 5 none :: ((wsX0_inherit_r1 ++ wsX0_inherit_r2) ++ wsX00)
def wsX5_type : List Cond := .code yX5_type cX5_type 2 (some .int) :: ([.methodLink RX5 42 yX5_next, .instanceMethod yX5_next, .selects RX5 yX5_next yX5_next, .initialized RX5, .code yX5_next cX5_next 1 (some .int), .fieldLink RX5 31 "CodeImages$Source" "at" "I", .methodLink RX5 38 yX5_byteAt, .instanceMethod yX5_byteAt, .selects RX5 yX5_byteAt yX5_byteAt, .code yX5_byteAt cX5_byteAt 3 (some .int), .fieldLink RX5 28 "CodeImages$Source" "length" "I", .fieldLink RX5 11 "CodeImages$Source" "words" "[I", .methodLink RX5 45 yX5_number, .instanceMethod yX5_number, .selects RX5 yX5_number yX5_number, .code yX5_number cX5_number 4 (some .int), .fieldLink RX5 34 "CodeImages$Source" "stopped" "Z"] ++ wsX50)
def wsX0_readFields_r1 : List Cond := [Cond.fieldLink RX0 15 "CodeImages$Classes" "fieldCounts" "[I", Cond.fieldLink RX0 18 "CodeImages$Classes" "fieldTypes" "[I", Cond.fieldLink RX0 30 "CodeImages$Classes" "count" "I", Cond.methodLink RX0 40 Lib.Math.max.name, Cond.static Lib.Math.max.name, Cond.initialized "java/lang/Math", Cond.code Lib.Math.max.name Lib.Math.max.code 2 (some .int), Cond.methodLink RX0 34 yX5_number, Cond.instanceMethod yX5_number, Cond.selects RX5 yX5_number yX5_number, Cond.initialized RX5, Cond.code yX5_number cX5_number 4 (some .int), Cond.fieldLink RX5 31 "CodeImages$Source" "at" "I", Cond.fieldLink RX5 34 "CodeImages$Source" "stopped" "Z", Cond.methodLink RX5 38 yX5_byteAt, Cond.instanceMethod yX5_byteAt, Cond.selects RX5 yX5_byteAt yX5_byteAt, Cond.code yX5_byteAt cX5_byteAt 3 (some .int), Cond.fieldLink RX5 28 "CodeImages$Source" "length" "I", Cond.fieldLink RX5 11 "CodeImages$Source" "words" "[I", Cond.methodLink RX0 45 yX5_stopped, Cond.instanceMethod yX5_stopped, Cond.selects RX5 yX5_stopped yX5_stopped, Cond.code yX5_stopped cX5_stopped 1 (some .boolean)]
def wsX0_readFields_r2 : List Cond := [Cond.methodLink RX0 76 yX5_type, Cond.instanceMethod yX5_type, Cond.selects RX5 yX5_type yX5_type, Cond.code yX5_type cX5_type 2 (some .int), Cond.methodLink RX5 42 yX5_next, Cond.instanceMethod yX5_next, Cond.selects RX5 yX5_next yX5_next, Cond.code yX5_next cX5_next 1 (some .int), Cond.methodLink RX5 45 yX5_number]
def wsX0_readFields : List Cond := .code yX0_readFields cX0_readFields 6 none :: ((wsX0_readFields_r1 ++ wsX0_readFields_r2) ++ wsX00 ++ wsX50)
def wsX5_place : List Cond := .code yX5_place cX5_place 1 (some .int) :: ([.fieldLink RX5 31 "CodeImages$Source" "at" "I"] ++ wsX50)
def wsX0_readSlots : List Cond := .code yX0_readSlots cX0_readSlots 9 none :: ([.fieldLink RX0 21 "CodeImages$Classes" "slotMethods" "[I", .fieldLink RX0 24 "CodeImages$Classes" "slotPlaces" "[I", .methodLink RX0 34 yX5_number, .instanceMethod yX5_number, .selects RX5 yX5_number yX5_number, .initialized RX5, .code yX5_number cX5_number 4 (some .int), .fieldLink RX5 31 "CodeImages$Source" "at" "I", .fieldLink RX5 34 "CodeImages$Source" "stopped" "Z", .methodLink RX5 38 yX5_byteAt, .instanceMethod yX5_byteAt, .selects RX5 yX5_byteAt yX5_byteAt, .code yX5_byteAt cX5_byteAt 3 (some .int), .fieldLink RX5 28 "CodeImages$Source" "length" "I", .fieldLink RX5 11 "CodeImages$Source" "words" "[I", .methodLink RX0 79 yX5_place, .instanceMethod yX5_place, .selects RX5 yX5_place yX5_place, .code yX5_place cX5_place 1 (some .int), .methodLink RX0 45 yX5_stopped, .instanceMethod yX5_stopped, .selects RX5 yX5_stopped yX5_stopped, .code yX5_stopped cX5_stopped 1 (some .boolean)] ++ wsX00 ++ wsX50)
def wsX0_readClass_r1 : List Cond := [Cond.fieldLink RX0 11 "CodeImages$Classes" "uppers" "[I", Cond.methodLink RX0 53 yX5_numberOrNothing, Cond.instanceMethod yX5_numberOrNothing, Cond.selects RX5 yX5_numberOrNothing yX5_numberOrNothing, Cond.initialized RX5, Cond.code yX5_numberOrNothing cX5_numberOrNothing 2 (some .int), Cond.methodLink RX5 42 yX5_next, Cond.instanceMethod yX5_next, Cond.selects RX5 yX5_next yX5_next, Cond.code yX5_next cX5_next 1 (some .int), Cond.fieldLink RX5 31 "CodeImages$Source" "at" "I", Cond.methodLink RX5 38 yX5_byteAt, Cond.instanceMethod yX5_byteAt, Cond.selects RX5 yX5_byteAt yX5_byteAt, Cond.code yX5_byteAt cX5_byteAt 3 (some .int), Cond.fieldLink RX5 28 "CodeImages$Source" "length" "I", Cond.fieldLink RX5 11 "CodeImages$Source" "words" "[I", Cond.methodLink RX5 45 yX5_number, Cond.instanceMethod yX5_number, Cond.selects RX5 yX5_number yX5_number, Cond.code yX5_number cX5_number 4 (some .int), Cond.fieldLink RX5 34 "CodeImages$Source" "stopped" "Z", Cond.methodLink RX0 57 yX0_inherit, Cond.instanceMethod yX0_inherit]
def wsX0_readClass_r2 : List Cond := [Cond.selects RX0 yX0_inherit yX0_inherit, Cond.initialized RX0, Cond.code yX0_inherit cX0_inherit 5 none, Cond.methodLink RX0 40 Lib.Math.max.name, Cond.static Lib.Math.max.name, Cond.initialized "java/lang/Math", Cond.code Lib.Math.max.name Lib.Math.max.code 2 (some .int), Cond.fieldLink RX0 15 "CodeImages$Classes" "fieldCounts" "[I", Cond.fieldLink RX0 18 "CodeImages$Classes" "fieldTypes" "[I", Cond.fieldLink RX0 21 "CodeImages$Classes" "slotMethods" "[I", Cond.fieldLink RX0 24 "CodeImages$Classes" "slotPlaces" "[I", Cond.methodLink RX0 67 yX0_fields, Cond.instanceMethod yX0_fields, Cond.selects RX0 yX0_fields yX0_fields, Cond.code yX0_fields cX0_fields 2 (some .int), Cond.methodLink RX0 83 yX0_has, Cond.instanceMethod yX0_has, Cond.selects RX0 yX0_has yX0_has, Cond.code yX0_has cX0_has 2 (some .boolean), Cond.fieldLink RX0 30 "CodeImages$Classes" "count" "I", Cond.methodLink RX0 70 yX0_fieldType, Cond.instanceMethod yX0_fieldType, Cond.selects RX0 yX0_fieldType yX0_fieldType, Cond.code yX0_fieldType cX0_fieldType 3 (some .int)]
def wsX0_readClass_r3 : List Cond := [Cond.methodLink RX0 73 yX0_slotMethod, Cond.instanceMethod yX0_slotMethod, Cond.selects RX0 yX0_slotMethod yX0_slotMethod, Cond.code yX0_slotMethod cX0_slotMethod 3 (some .int), Cond.methodLink RX0 61 yX0_readFields, Cond.instanceMethod yX0_readFields, Cond.selects RX0 yX0_readFields yX0_readFields, Cond.code yX0_readFields cX0_readFields 6 none, Cond.methodLink RX0 34 yX5_number, Cond.methodLink RX0 45 yX5_stopped, Cond.instanceMethod yX5_stopped, Cond.selects RX5 yX5_stopped yX5_stopped, Cond.code yX5_stopped cX5_stopped 1 (some .boolean), Cond.methodLink RX0 76 yX5_type, Cond.instanceMethod yX5_type, Cond.selects RX5 yX5_type yX5_type, Cond.code yX5_type cX5_type 2 (some .int), Cond.methodLink RX0 64 yX0_readSlots, Cond.instanceMethod yX0_readSlots, Cond.selects RX0 yX0_readSlots yX0_readSlots, Cond.code yX0_readSlots cX0_readSlots 9 none, Cond.methodLink RX0 79 yX5_place, Cond.instanceMethod yX5_place, Cond.selects RX5 yX5_place yX5_place]
def wsX0_readClass_r4 : List Cond := [Cond.code yX5_place cX5_place 1 (some .int)]
def wsX0_readClass : List Cond := .code yX0_readClass cX0_readClass 4 none :: ((wsX0_readClass_r1 ++ (wsX0_readClass_r2 ++ (wsX0_readClass_r3 ++ wsX0_readClass_r4))) ++ wsX00 ++ wsX50)
def wsX0_read_r1 : List Cond := [Cond.methodLink RX0 40 Lib.Math.max.name, Cond.static Lib.Math.max.name, Cond.initialized "java/lang/Math", Cond.code Lib.Math.max.name Lib.Math.max.code 2 (some .int), Cond.fieldLink RX0 30 "CodeImages$Classes" "count" "I", Cond.fieldLink RX0 27 "CodeImages$Classes" "faults" "[I", Cond.methodLink RX0 34 yX5_number, Cond.instanceMethod yX5_number, Cond.selects RX5 yX5_number yX5_number, Cond.initialized RX5, Cond.code yX5_number cX5_number 4 (some .int), Cond.fieldLink RX5 31 "CodeImages$Source" "at" "I", Cond.fieldLink RX5 34 "CodeImages$Source" "stopped" "Z", Cond.methodLink RX5 38 yX5_byteAt, Cond.instanceMethod yX5_byteAt, Cond.selects RX5 yX5_byteAt yX5_byteAt, Cond.code yX5_byteAt cX5_byteAt 3 (some .int), Cond.fieldLink RX5 28 "CodeImages$Source" "length" "I", Cond.fieldLink RX5 11 "CodeImages$Source" "words" "[I", Cond.methodLink RX0 45 yX5_stopped, Cond.instanceMethod yX5_stopped, Cond.selects RX5 yX5_stopped yX5_stopped, Cond.code yX5_stopped cX5_stopped 1 (some .boolean), Cond.methodLink RX0 49 yX0_readClass]
def wsX0_read_r2 : List Cond := [Cond.instanceMethod yX0_readClass, Cond.selects RX0 yX0_readClass yX0_readClass, Cond.initialized RX0, Cond.code yX0_readClass cX0_readClass 4 none, Cond.fieldLink RX0 11 "CodeImages$Classes" "uppers" "[I", Cond.methodLink RX0 53 yX5_numberOrNothing, Cond.instanceMethod yX5_numberOrNothing, Cond.selects RX5 yX5_numberOrNothing yX5_numberOrNothing, Cond.code yX5_numberOrNothing cX5_numberOrNothing 2 (some .int), Cond.methodLink RX5 42 yX5_next, Cond.instanceMethod yX5_next, Cond.selects RX5 yX5_next yX5_next, Cond.code yX5_next cX5_next 1 (some .int), Cond.methodLink RX5 45 yX5_number, Cond.methodLink RX0 57 yX0_inherit, Cond.instanceMethod yX0_inherit, Cond.selects RX0 yX0_inherit yX0_inherit, Cond.code yX0_inherit cX0_inherit 5 none, Cond.fieldLink RX0 15 "CodeImages$Classes" "fieldCounts" "[I", Cond.fieldLink RX0 18 "CodeImages$Classes" "fieldTypes" "[I", Cond.fieldLink RX0 21 "CodeImages$Classes" "slotMethods" "[I", Cond.fieldLink RX0 24 "CodeImages$Classes" "slotPlaces" "[I", Cond.methodLink RX0 67 yX0_fields, Cond.instanceMethod yX0_fields]
def wsX0_read_r3 : List Cond := [Cond.selects RX0 yX0_fields yX0_fields, Cond.code yX0_fields cX0_fields 2 (some .int), Cond.methodLink RX0 83 yX0_has, Cond.instanceMethod yX0_has, Cond.selects RX0 yX0_has yX0_has, Cond.code yX0_has cX0_has 2 (some .boolean), Cond.methodLink RX0 70 yX0_fieldType, Cond.instanceMethod yX0_fieldType, Cond.selects RX0 yX0_fieldType yX0_fieldType, Cond.code yX0_fieldType cX0_fieldType 3 (some .int), Cond.methodLink RX0 73 yX0_slotMethod, Cond.instanceMethod yX0_slotMethod, Cond.selects RX0 yX0_slotMethod yX0_slotMethod, Cond.code yX0_slotMethod cX0_slotMethod 3 (some .int), Cond.methodLink RX0 61 yX0_readFields, Cond.instanceMethod yX0_readFields, Cond.selects RX0 yX0_readFields yX0_readFields, Cond.code yX0_readFields cX0_readFields 6 none, Cond.methodLink RX0 76 yX5_type, Cond.instanceMethod yX5_type, Cond.selects RX5 yX5_type yX5_type, Cond.code yX5_type cX5_type 2 (some .int), Cond.methodLink RX0 64 yX0_readSlots, Cond.instanceMethod yX0_readSlots]
def wsX0_read_r4 : List Cond := [Cond.selects RX0 yX0_readSlots yX0_readSlots, Cond.code yX0_readSlots cX0_readSlots 9 none, Cond.methodLink RX0 79 yX5_place, Cond.instanceMethod yX5_place, Cond.selects RX5 yX5_place yX5_place, Cond.code yX5_place cX5_place 1 (some .int)]
def wsX0_read : List Cond := .code yX0_read cX0_read 3 none :: ((wsX0_read_r1 ++ (wsX0_read_r2 ++ (wsX0_read_r3 ++ wsX0_read_r4))) ++ wsX00 ++ wsX50)
def wsX0_upper : List Cond := .code yX0_upper cX0_upper 2 (some .int) :: ([.fieldLink RX0 11 "CodeImages$Classes" "uppers" "[I", .methodLink RX0 83 yX0_has, .instanceMethod yX0_has, .selects RX0 yX0_has yX0_has, .initialized RX0, .code yX0_has cX0_has 2 (some .boolean), .fieldLink RX0 30 "CodeImages$Classes" "count" "I"] ++ wsX00)
def wsX0_slotPlace : List Cond := .code yX0_slotPlace cX0_slotPlace 3 (some .int) :: ([.fieldLink RX0 24 "CodeImages$Classes" "slotPlaces" "[I", .methodLink RX0 83 yX0_has, .instanceMethod yX0_has, .selects RX0 yX0_has yX0_has, .initialized RX0, .code yX0_has cX0_has 2 (some .boolean), .fieldLink RX0 30 "CodeImages$Classes" "count" "I"] ++ wsX00)
def wsX0_reaches : List Cond := .code yX0_reaches cX0_reaches 5 (some .boolean) :: ([.fieldLink RX0 11 "CodeImages$Classes" "uppers" "[I", .methodLink RX0 83 yX0_has, .instanceMethod yX0_has, .selects RX0 yX0_has yX0_has, .initialized RX0, .code yX0_has cX0_has 2 (some .boolean), .fieldLink RX0 30 "CodeImages$Classes" "count" "I"] ++ wsX00)
def wsX0_fault : List Cond := .code yX0_fault cX0_fault 2 (some .int) :: ([.fieldLink RX0 30 "CodeImages$Classes" "count" "I", .fieldLink RX0 27 "CodeImages$Classes" "faults" "[I"] ++ wsX00)
def wsX1_init : List Cond := .code yX1_init cX1_init 1 none :: ([.methodLink RX1 3 objectInit, .instanceMethod objectInit, .code objectInit ⟨#[0xb1]⟩ 1 none, .arrayClass .int, .fieldLink RX1 11 "CodeImages$Code" "starts" "[I", .fieldLink RX1 17 "CodeImages$Code" "lengths" "[I", .fieldLink RX1 20 "CodeImages$Code" "counts" "[I", .fieldLink RX1 25 "CodeImages$Code" "begins" "[I"] ++ wsX10)
def wsJ7_fill_53178 : List Cond := .code yJ7_fill_53178 cJ7_fill_53178 4 none :: ([])
def wsX1_clear : List Cond := .code yX1_clear cX1_clear 1 none :: ([.fieldLink RX1 28 "CodeImages$Code" "total" "I", .fieldLink RX1 25 "CodeImages$Code" "begins" "[I", .methodLink RX1 32 yJ7_fill_53178, .static yJ7_fill_53178, .initialized RJ7, .code yJ7_fill_53178 cJ7_fill_53178 4 none] ++ wsX10)
def wsX1_total : List Cond := .code yX1_total cX1_total 1 (some .int) :: ([.fieldLink RX1 28 "CodeImages$Code" "total" "I"] ++ wsX10)
def wsX5_pair : List Cond := .code yX5_pair cX5_pair 5 (some .int) :: ([.fieldLink RX5 34 "CodeImages$Source" "stopped" "Z", .methodLink RX5 45 yX5_number, .instanceMethod yX5_number, .selects RX5 yX5_number yX5_number, .initialized RX5, .code yX5_number cX5_number 4 (some .int), .fieldLink RX5 31 "CodeImages$Source" "at" "I", .methodLink RX5 38 yX5_byteAt, .instanceMethod yX5_byteAt, .selects RX5 yX5_byteAt yX5_byteAt, .code yX5_byteAt cX5_byteAt 3 (some .int), .fieldLink RX5 28 "CodeImages$Source" "length" "I", .fieldLink RX5 11 "CodeImages$Source" "words" "[I"] ++ wsX50)
def wsX4_first : List Cond := .code yX4_first cX4_first 1 (some .int) :: ([.fieldLink RX4 7 "CodeImages$Operands" "FIRSTS" "[I"])
def wsX4_width : List Cond := .code yX4_width cX4_width 1 (some .int) :: ([.fieldLink RX4 16 "CodeImages$Operands" "WIDTHS" "[I"])
def wsX4_second : List Cond := .code yX4_second cX4_second 1 (some .int) :: ([.fieldLink RX4 13 "CodeImages$Operands" "SECONDS" "[I"])
def wsX4_length : List Cond := .code yX4_length cX4_length 1 (some .int) :: ([.methodLink RX4 19 yX4_first, .static yX4_first, .initialized RX4, .code yX4_first cX4_first 1 (some .int), .fieldLink RX4 7 "CodeImages$Operands" "FIRSTS" "[I", .methodLink RX4 23 yX4_width, .static yX4_width, .code yX4_width cX4_width 1 (some .int), .fieldLink RX4 16 "CodeImages$Operands" "WIDTHS" "[I", .methodLink RX4 26 yX4_second, .static yX4_second, .code yX4_second cX4_second 1 (some .int), .fieldLink RX4 13 "CodeImages$Operands" "SECONDS" "[I"])
def wsX5_stopAt : List Cond := .code yX5_stopAt cX5_stopAt 2 none :: ([.fieldLink RX5 31 "CodeImages$Source" "at" "I", .fieldLink RX5 34 "CodeImages$Source" "stopped" "Z"] ++ wsX50)
def wsX1_markBegin : List Cond := .code yX1_markBegin cX1_markBegin 3 none :: ([.fieldLink RX1 25 "CodeImages$Code" "begins" "[I"] ++ wsX10)
def wsX5_skip : List Cond := .code yX5_skip cX5_skip 2 none :: ([.fieldLink RX5 34 "CodeImages$Source" "stopped" "Z", .fieldLink RX5 28 "CodeImages$Source" "length" "I", .fieldLink RX5 31 "CodeImages$Source" "at" "I", .methodLink RX5 52 yX5_stopAt, .instanceMethod yX5_stopAt, .selects RX5 yX5_stopAt yX5_stopAt, .initialized RX5, .code yX5_stopAt cX5_stopAt 2 none] ++ wsX50)
def wsX1_readOperand_r1 : List Cond := [Cond.methodLink RX1 63 yX5_number, Cond.instanceMethod yX5_number, Cond.selects RX5 yX5_number yX5_number, Cond.initialized RX5, Cond.code yX5_number cX5_number 4 (some .int), Cond.fieldLink RX5 31 "CodeImages$Source" "at" "I", Cond.fieldLink RX5 34 "CodeImages$Source" "stopped" "Z", Cond.methodLink RX5 38 yX5_byteAt, Cond.instanceMethod yX5_byteAt, Cond.selects RX5 yX5_byteAt yX5_byteAt, Cond.code yX5_byteAt cX5_byteAt 3 (some .int), Cond.fieldLink RX5 28 "CodeImages$Source" "length" "I", Cond.fieldLink RX5 11 "CodeImages$Source" "words" "[I", Cond.methodLink RX1 96 yX0_size, Cond.instanceMethod yX0_size, Cond.selects RX0 yX0_size yX0_size, Cond.initialized RX0, Cond.code yX0_size cX0_size 1 (some .int), Cond.fieldLink RX0 30 "CodeImages$Classes" "count" "I", Cond.methodLink RX1 99 yX4_width, Cond.static yX4_width, Cond.initialized RX4, Cond.code yX4_width cX4_width 1 (some .int), Cond.fieldLink RX4 16 "CodeImages$Operands" "WIDTHS" "[I"]
def wsX1_readOperand_r2 : List Cond := [Cond.methodLink RX1 102 yX5_skip, Cond.instanceMethod yX5_skip, Cond.selects RX5 yX5_skip yX5_skip, Cond.code yX5_skip cX5_skip 2 none, Cond.methodLink RX5 52 yX5_stopAt, Cond.instanceMethod yX5_stopAt, Cond.selects RX5 yX5_stopAt yX5_stopAt, Cond.code yX5_stopAt cX5_stopAt 2 none]
def wsX1_readOperand : List Cond := .code yX1_readOperand cX1_readOperand 4 (some .int) :: ((wsX1_readOperand_r1 ++ wsX1_readOperand_r2) ++ wsX50 ++ wsX00)
def wsX1_readSlot_r1 : List Cond := [Cond.methodLink RX1 105 yX5_next, Cond.instanceMethod yX5_next, Cond.selects RX5 yX5_next yX5_next, Cond.initialized RX5, Cond.code yX5_next cX5_next 1 (some .int), Cond.fieldLink RX5 31 "CodeImages$Source" "at" "I", Cond.methodLink RX5 38 yX5_byteAt, Cond.instanceMethod yX5_byteAt, Cond.selects RX5 yX5_byteAt yX5_byteAt, Cond.code yX5_byteAt cX5_byteAt 3 (some .int), Cond.fieldLink RX5 28 "CodeImages$Source" "length" "I", Cond.fieldLink RX5 11 "CodeImages$Source" "words" "[I", Cond.methodLink RX1 108 yX0_slotMethod, Cond.instanceMethod yX0_slotMethod, Cond.selects RX0 yX0_slotMethod yX0_slotMethod, Cond.initialized RX0, Cond.code yX0_slotMethod cX0_slotMethod 3 (some .int), Cond.fieldLink RX0 21 "CodeImages$Classes" "slotMethods" "[I", Cond.methodLink RX0 83 yX0_has, Cond.instanceMethod yX0_has, Cond.selects RX0 yX0_has yX0_has, Cond.code yX0_has cX0_has 2 (some .boolean), Cond.fieldLink RX0 30 "CodeImages$Classes" "count" "I", Cond.methodLink RX1 49 yX5_place]
def wsX1_readSlot_r2 : List Cond := [Cond.instanceMethod yX5_place, Cond.selects RX5 yX5_place yX5_place, Cond.code yX5_place cX5_place 1 (some .int), Cond.methodLink RX1 70 yX5_stopAt, Cond.instanceMethod yX5_stopAt, Cond.selects RX5 yX5_stopAt yX5_stopAt, Cond.code yX5_stopAt cX5_stopAt 2 none, Cond.fieldLink RX5 34 "CodeImages$Source" "stopped" "Z", Cond.methodLink RX1 63 yX5_number, Cond.instanceMethod yX5_number, Cond.selects RX5 yX5_number yX5_number, Cond.code yX5_number cX5_number 4 (some .int)]
def wsX1_readSlot : List Cond := .code yX1_readSlot cX1_readSlot 4 none :: ((wsX1_readSlot_r1 ++ wsX1_readSlot_r2) ++ wsX50 ++ wsX00)
def wsX1_readInstruction_r1 : List Cond := [Cond.methodLink RX1 49 yX5_place, Cond.instanceMethod yX5_place, Cond.selects RX5 yX5_place yX5_place, Cond.initialized RX5, Cond.code yX5_place cX5_place 1 (some .int), Cond.fieldLink RX5 31 "CodeImages$Source" "at" "I", Cond.methodLink RX1 63 yX5_number, Cond.instanceMethod yX5_number, Cond.selects RX5 yX5_number yX5_number, Cond.code yX5_number cX5_number 4 (some .int), Cond.fieldLink RX5 34 "CodeImages$Source" "stopped" "Z", Cond.methodLink RX5 38 yX5_byteAt, Cond.instanceMethod yX5_byteAt, Cond.selects RX5 yX5_byteAt yX5_byteAt, Cond.code yX5_byteAt cX5_byteAt 3 (some .int), Cond.fieldLink RX5 28 "CodeImages$Source" "length" "I", Cond.fieldLink RX5 11 "CodeImages$Source" "words" "[I", Cond.methodLink RX1 53 yX5_stopped, Cond.instanceMethod yX5_stopped, Cond.selects RX5 yX5_stopped yX5_stopped, Cond.code yX5_stopped cX5_stopped 1 (some .boolean), Cond.methodLink RX1 66 yX4_length, Cond.static yX4_length, Cond.initialized RX4]
def wsX1_readInstruction_r2 : List Cond := [Cond.code yX4_length cX4_length 1 (some .int), Cond.methodLink RX4 19 yX4_first, Cond.static yX4_first, Cond.code yX4_first cX4_first 1 (some .int), Cond.fieldLink RX4 7 "CodeImages$Operands" "FIRSTS" "[I", Cond.methodLink RX4 23 yX4_width, Cond.static yX4_width, Cond.code yX4_width cX4_width 1 (some .int), Cond.fieldLink RX4 16 "CodeImages$Operands" "WIDTHS" "[I", Cond.methodLink RX4 26 yX4_second, Cond.static yX4_second, Cond.code yX4_second cX4_second 1 (some .int), Cond.fieldLink RX4 13 "CodeImages$Operands" "SECONDS" "[I", Cond.methodLink RX1 70 yX5_stopAt, Cond.instanceMethod yX5_stopAt, Cond.selects RX5 yX5_stopAt yX5_stopAt, Cond.code yX5_stopAt cX5_stopAt 2 none, Cond.methodLink RX1 74 yX1_markBegin, Cond.instanceMethod yX1_markBegin, Cond.selects RX1 yX1_markBegin yX1_markBegin, Cond.initialized RX1, Cond.code yX1_markBegin cX1_markBegin 3 none, Cond.fieldLink RX1 25 "CodeImages$Code" "begins" "[I", Cond.methodLink RX1 77 yX4_first]
def wsX1_readInstruction_r3 : List Cond := [Cond.methodLink RX1 80 yX1_readOperand, Cond.static yX1_readOperand, Cond.code yX1_readOperand cX1_readOperand 4 (some .int), Cond.methodLink RX1 96 yX0_size, Cond.instanceMethod yX0_size, Cond.selects RX0 yX0_size yX0_size, Cond.initialized RX0, Cond.code yX0_size cX0_size 1 (some .int), Cond.fieldLink RX0 30 "CodeImages$Classes" "count" "I", Cond.methodLink RX1 99 yX4_width, Cond.methodLink RX1 102 yX5_skip, Cond.instanceMethod yX5_skip, Cond.selects RX5 yX5_skip yX5_skip, Cond.code yX5_skip cX5_skip 2 none, Cond.methodLink RX5 52 yX5_stopAt, Cond.methodLink RX1 84 yX4_second, Cond.methodLink RX1 87 yX0_fields, Cond.instanceMethod yX0_fields, Cond.selects RX0 yX0_fields yX0_fields, Cond.code yX0_fields cX0_fields 2 (some .int), Cond.fieldLink RX0 15 "CodeImages$Classes" "fieldCounts" "[I", Cond.methodLink RX0 83 yX0_has, Cond.instanceMethod yX0_has, Cond.selects RX0 yX0_has yX0_has]
def wsX1_readInstruction_r4 : List Cond := [Cond.code yX0_has cX0_has 2 (some .boolean), Cond.methodLink RX1 92 yX1_readSlot, Cond.static yX1_readSlot, Cond.code yX1_readSlot cX1_readSlot 4 none, Cond.methodLink RX1 105 yX5_next, Cond.instanceMethod yX5_next, Cond.selects RX5 yX5_next yX5_next, Cond.code yX5_next cX5_next 1 (some .int), Cond.methodLink RX1 108 yX0_slotMethod, Cond.instanceMethod yX0_slotMethod, Cond.selects RX0 yX0_slotMethod yX0_slotMethod, Cond.code yX0_slotMethod cX0_slotMethod 3 (some .int), Cond.fieldLink RX0 21 "CodeImages$Classes" "slotMethods" "[I"]
def wsX1_readInstruction : List Cond := .code yX1_readInstruction cX1_readInstruction 9 none :: ((wsX1_readInstruction_r1 ++ (wsX1_readInstruction_r2 ++ (wsX1_readInstruction_r3 ++ wsX1_readInstruction_r4))) ++ wsX50 ++ wsX10 ++ wsX00)
def wsX1_read_r1 : List Cond := [Cond.methodLink RX1 44 Lib.Math.max.name, Cond.static Lib.Math.max.name, Cond.initialized "java/lang/Math", Cond.code Lib.Math.max.name Lib.Math.max.code 2 (some .int), Cond.fieldLink RX1 11 "CodeImages$Code" "starts" "[I", Cond.fieldLink RX1 17 "CodeImages$Code" "lengths" "[I", Cond.fieldLink RX1 20 "CodeImages$Code" "counts" "[I", Cond.fieldLink RX1 28 "CodeImages$Code" "total" "I", Cond.methodLink RX1 38 yX5_pair, Cond.instanceMethod yX5_pair, Cond.selects RX5 yX5_pair yX5_pair, Cond.initialized RX5, Cond.code yX5_pair cX5_pair 5 (some .int), Cond.fieldLink RX5 34 "CodeImages$Source" "stopped" "Z", Cond.methodLink RX5 45 yX5_number, Cond.instanceMethod yX5_number, Cond.selects RX5 yX5_number yX5_number, Cond.code yX5_number cX5_number 4 (some .int), Cond.fieldLink RX5 31 "CodeImages$Source" "at" "I", Cond.methodLink RX5 38 yX5_byteAt, Cond.instanceMethod yX5_byteAt, Cond.selects RX5 yX5_byteAt yX5_byteAt, Cond.code yX5_byteAt cX5_byteAt 3 (some .int), Cond.fieldLink RX5 28 "CodeImages$Source" "length" "I"]
def wsX1_read_r2 : List Cond := [Cond.fieldLink RX5 11 "CodeImages$Source" "words" "[I", Cond.methodLink RX1 49 yX5_place, Cond.instanceMethod yX5_place, Cond.selects RX5 yX5_place yX5_place, Cond.code yX5_place cX5_place 1 (some .int), Cond.methodLink RX1 53 yX5_stopped, Cond.instanceMethod yX5_stopped, Cond.selects RX5 yX5_stopped yX5_stopped, Cond.code yX5_stopped cX5_stopped 1 (some .boolean), Cond.methodLink RX1 57 yX1_readInstruction, Cond.instanceMethod yX1_readInstruction, Cond.selects RX1 yX1_readInstruction yX1_readInstruction, Cond.initialized RX1, Cond.code yX1_readInstruction cX1_readInstruction 9 none, Cond.methodLink RX1 63 yX5_number, Cond.methodLink RX1 66 yX4_length, Cond.static yX4_length, Cond.initialized RX4, Cond.code yX4_length cX4_length 1 (some .int), Cond.methodLink RX4 19 yX4_first, Cond.static yX4_first, Cond.code yX4_first cX4_first 1 (some .int), Cond.fieldLink RX4 7 "CodeImages$Operands" "FIRSTS" "[I", Cond.methodLink RX4 23 yX4_width]
def wsX1_read_r3 : List Cond := [Cond.static yX4_width, Cond.code yX4_width cX4_width 1 (some .int), Cond.fieldLink RX4 16 "CodeImages$Operands" "WIDTHS" "[I", Cond.methodLink RX4 26 yX4_second, Cond.static yX4_second, Cond.code yX4_second cX4_second 1 (some .int), Cond.fieldLink RX4 13 "CodeImages$Operands" "SECONDS" "[I", Cond.methodLink RX1 70 yX5_stopAt, Cond.instanceMethod yX5_stopAt, Cond.selects RX5 yX5_stopAt yX5_stopAt, Cond.code yX5_stopAt cX5_stopAt 2 none, Cond.methodLink RX1 74 yX1_markBegin, Cond.instanceMethod yX1_markBegin, Cond.selects RX1 yX1_markBegin yX1_markBegin, Cond.code yX1_markBegin cX1_markBegin 3 none, Cond.fieldLink RX1 25 "CodeImages$Code" "begins" "[I", Cond.methodLink RX1 77 yX4_first, Cond.methodLink RX1 80 yX1_readOperand, Cond.static yX1_readOperand, Cond.code yX1_readOperand cX1_readOperand 4 (some .int), Cond.methodLink RX1 96 yX0_size, Cond.instanceMethod yX0_size, Cond.selects RX0 yX0_size yX0_size, Cond.initialized RX0]
def wsX1_read_r4 : List Cond := [Cond.code yX0_size cX0_size 1 (some .int), Cond.fieldLink RX0 30 "CodeImages$Classes" "count" "I", Cond.methodLink RX1 99 yX4_width, Cond.methodLink RX1 102 yX5_skip, Cond.instanceMethod yX5_skip, Cond.selects RX5 yX5_skip yX5_skip, Cond.code yX5_skip cX5_skip 2 none, Cond.methodLink RX5 52 yX5_stopAt, Cond.methodLink RX1 84 yX4_second, Cond.methodLink RX1 87 yX0_fields, Cond.instanceMethod yX0_fields, Cond.selects RX0 yX0_fields yX0_fields, Cond.code yX0_fields cX0_fields 2 (some .int), Cond.fieldLink RX0 15 "CodeImages$Classes" "fieldCounts" "[I", Cond.methodLink RX0 83 yX0_has, Cond.instanceMethod yX0_has, Cond.selects RX0 yX0_has yX0_has, Cond.code yX0_has cX0_has 2 (some .boolean), Cond.methodLink RX1 92 yX1_readSlot, Cond.static yX1_readSlot, Cond.code yX1_readSlot cX1_readSlot 4 none, Cond.methodLink RX1 105 yX5_next, Cond.instanceMethod yX5_next, Cond.selects RX5 yX5_next yX5_next]
def wsX1_read_r5 : List Cond := [Cond.code yX5_next cX5_next 1 (some .int), Cond.methodLink RX1 108 yX0_slotMethod, Cond.instanceMethod yX0_slotMethod, Cond.selects RX0 yX0_slotMethod yX0_slotMethod, Cond.code yX0_slotMethod cX0_slotMethod 3 (some .int), Cond.fieldLink RX0 21 "CodeImages$Classes" "slotMethods" "[I"]
def wsX1_read : List Cond := .code yX1_read cX1_read 9 none :: ((wsX1_read_r1 ++ (wsX1_read_r2 ++ (wsX1_read_r3 ++ (wsX1_read_r4 ++ wsX1_read_r5)))) ++ wsX10 ++ wsX50 ++ wsX00)
def wsX1_length : List Cond := .code yX1_length cX1_length 2 (some .int) :: ([.fieldLink RX1 17 "CodeImages$Code" "lengths" "[I"] ++ wsX10)
def wsX1_beginsAt : List Cond := .code yX1_beginsAt cX1_beginsAt 5 (some .boolean) :: ([.fieldLink RX1 11 "CodeImages$Code" "starts" "[I", .fieldLink RX1 25 "CodeImages$Code" "begins" "[I", .methodLink RX1 111 yX1_length, .instanceMethod yX1_length, .selects RX1 yX1_length yX1_length, .initialized RX1, .code yX1_length cX1_length 2 (some .int), .fieldLink RX1 17 "CodeImages$Code" "lengths" "[I"] ++ wsX10)
def wsX1_size : List Cond := .code yX1_size cX1_size 2 (some .int) :: ([.fieldLink RX1 20 "CodeImages$Code" "counts" "[I"] ++ wsX10)
def wsX1_placeOf_r1 : List Cond := [Cond.fieldLink RX1 11 "CodeImages$Code" "starts" "[I", Cond.methodLink RX1 112 yX1_size, Cond.instanceMethod yX1_size, Cond.selects RX1 yX1_size yX1_size, Cond.initialized RX1, Cond.code yX1_size cX1_size 2 (some .int), Cond.fieldLink RX1 20 "CodeImages$Code" "counts" "[I", Cond.methodLink RX1 114 yX5_byteAt, Cond.instanceMethod yX5_byteAt, Cond.selects RX5 yX5_byteAt yX5_byteAt, Cond.initialized RX5, Cond.code yX5_byteAt cX5_byteAt 3 (some .int), Cond.fieldLink RX5 28 "CodeImages$Source" "length" "I", Cond.fieldLink RX5 11 "CodeImages$Source" "words" "[I", Cond.methodLink RX1 66 yX4_length, Cond.static yX4_length, Cond.initialized RX4, Cond.code yX4_length cX4_length 1 (some .int), Cond.methodLink RX4 19 yX4_first, Cond.static yX4_first, Cond.code yX4_first cX4_first 1 (some .int), Cond.fieldLink RX4 7 "CodeImages$Operands" "FIRSTS" "[I", Cond.methodLink RX4 23 yX4_width, Cond.static yX4_width]
def wsX1_placeOf_r2 : List Cond := [Cond.code yX4_width cX4_width 1 (some .int), Cond.fieldLink RX4 16 "CodeImages$Operands" "WIDTHS" "[I", Cond.methodLink RX4 26 yX4_second, Cond.static yX4_second, Cond.code yX4_second cX4_second 1 (some .int), Cond.fieldLink RX4 13 "CodeImages$Operands" "SECONDS" "[I"]
def wsX1_placeOf : List Cond := .code yX1_placeOf cX1_placeOf 6 (some .int) :: ((wsX1_placeOf_r1 ++ wsX1_placeOf_r2) ++ wsX10 ++ wsX50)
def wsX5_valueAt : List Cond := .code yX5_valueAt cX5_valueAt 5 (some .int) :: ([.methodLink RX5 38 yX5_byteAt, .instanceMethod yX5_byteAt, .selects RX5 yX5_byteAt yX5_byteAt, .initialized RX5, .code yX5_byteAt cX5_byteAt 3 (some .int), .fieldLink RX5 28 "CodeImages$Source" "length" "I", .fieldLink RX5 11 "CodeImages$Source" "words" "[I"] ++ wsX50)
def wsX1_fact_r1 : List Cond := [Cond.fieldLink RX1 11 "CodeImages$Code" "starts" "[I", Cond.methodLink RX1 117 yX1_beginsAt, Cond.instanceMethod yX1_beginsAt, Cond.selects RX1 yX1_beginsAt yX1_beginsAt, Cond.initialized RX1, Cond.code yX1_beginsAt cX1_beginsAt 5 (some .boolean), Cond.fieldLink RX1 25 "CodeImages$Code" "begins" "[I", Cond.methodLink RX1 111 yX1_length, Cond.instanceMethod yX1_length, Cond.selects RX1 yX1_length yX1_length, Cond.code yX1_length cX1_length 2 (some .int), Cond.fieldLink RX1 17 "CodeImages$Code" "lengths" "[I", Cond.methodLink RX1 114 yX5_byteAt, Cond.instanceMethod yX5_byteAt, Cond.selects RX5 yX5_byteAt yX5_byteAt, Cond.initialized RX5, Cond.code yX5_byteAt cX5_byteAt 3 (some .int), Cond.fieldLink RX5 28 "CodeImages$Source" "length" "I", Cond.fieldLink RX5 11 "CodeImages$Source" "words" "[I", Cond.methodLink RX1 77 yX4_first, Cond.static yX4_first, Cond.initialized RX4, Cond.code yX4_first cX4_first 1 (some .int), Cond.fieldLink RX4 7 "CodeImages$Operands" "FIRSTS" "[I"]
def wsX1_fact_r2 : List Cond := [Cond.methodLink RX1 99 yX4_width, Cond.static yX4_width, Cond.code yX4_width cX4_width 1 (some .int), Cond.fieldLink RX4 16 "CodeImages$Operands" "WIDTHS" "[I", Cond.methodLink RX1 121 yX5_valueAt, Cond.instanceMethod yX5_valueAt, Cond.selects RX5 yX5_valueAt yX5_valueAt, Cond.code yX5_valueAt cX5_valueAt 5 (some .int), Cond.methodLink RX5 38 yX5_byteAt, Cond.methodLink RX1 84 yX4_second, Cond.static yX4_second, Cond.code yX4_second cX4_second 1 (some .int), Cond.fieldLink RX4 13 "CodeImages$Operands" "SECONDS" "[I", Cond.methodLink RX1 66 yX4_length, Cond.static yX4_length, Cond.code yX4_length cX4_length 1 (some .int), Cond.methodLink RX4 19 yX4_first, Cond.methodLink RX4 23 yX4_width, Cond.methodLink RX4 26 yX4_second]
def wsX1_fact : List Cond := .code yX1_fact cX1_fact 8 (some .int) :: ((wsX1_fact_r1 ++ wsX1_fact_r2) ++ wsX10 ++ wsX50)
def wsX1_misfit_r1 : List Cond := [Cond.fieldLink RX1 11 "CodeImages$Code" "starts" "[I", Cond.methodLink RX1 112 yX1_size, Cond.instanceMethod yX1_size, Cond.selects RX1 yX1_size yX1_size, Cond.initialized RX1, Cond.code yX1_size cX1_size 2 (some .int), Cond.fieldLink RX1 20 "CodeImages$Code" "counts" "[I", Cond.methodLink RX1 114 yX5_byteAt, Cond.instanceMethod yX5_byteAt, Cond.selects RX5 yX5_byteAt yX5_byteAt, Cond.initialized RX5, Cond.code yX5_byteAt cX5_byteAt 3 (some .int), Cond.fieldLink RX5 28 "CodeImages$Source" "length" "I", Cond.fieldLink RX5 11 "CodeImages$Source" "words" "[I", Cond.methodLink RX1 77 yX4_first, Cond.static yX4_first, Cond.initialized RX4, Cond.code yX4_first cX4_first 1 (some .int), Cond.fieldLink RX4 7 "CodeImages$Operands" "FIRSTS" "[I", Cond.methodLink RX1 99 yX4_width, Cond.static yX4_width, Cond.code yX4_width cX4_width 1 (some .int), Cond.fieldLink RX4 16 "CodeImages$Operands" "WIDTHS" "[I", Cond.methodLink RX1 121 yX5_valueAt]
def wsX1_misfit_r2 : List Cond := [Cond.instanceMethod yX5_valueAt, Cond.selects RX5 yX5_valueAt yX5_valueAt, Cond.code yX5_valueAt cX5_valueAt 5 (some .int), Cond.methodLink RX5 38 yX5_byteAt, Cond.methodLink RX1 117 yX1_beginsAt, Cond.instanceMethod yX1_beginsAt, Cond.selects RX1 yX1_beginsAt yX1_beginsAt, Cond.code yX1_beginsAt cX1_beginsAt 5 (some .boolean), Cond.fieldLink RX1 25 "CodeImages$Code" "begins" "[I", Cond.methodLink RX1 111 yX1_length, Cond.instanceMethod yX1_length, Cond.selects RX1 yX1_length yX1_length, Cond.code yX1_length cX1_length 2 (some .int), Cond.fieldLink RX1 17 "CodeImages$Code" "lengths" "[I", Cond.methodLink RX1 84 yX4_second, Cond.static yX4_second, Cond.code yX4_second cX4_second 1 (some .int), Cond.fieldLink RX4 13 "CodeImages$Operands" "SECONDS" "[I", Cond.methodLink RX1 66 yX4_length, Cond.static yX4_length, Cond.code yX4_length cX4_length 1 (some .int), Cond.methodLink RX4 19 yX4_first, Cond.methodLink RX4 23 yX4_width, Cond.methodLink RX4 26 yX4_second]
def wsX1_misfit : List Cond := .code yX1_misfit cX1_misfit 10 (some .int) :: ((wsX1_misfit_r1 ++ wsX1_misfit_r2) ++ wsX10 ++ wsX50)
def wsX2_init : List Cond := .code yX2_init cX2_init 1 none :: ([.methodLink RX2 3 objectInit, .instanceMethod objectInit, .code objectInit ⟨#[0xb1]⟩ 1 none, .arrayClass .int, .fieldLink RX2 11 "CodeImages$Handlers" "starts" "[I", .fieldLink RX2 17 "CodeImages$Handlers" "counts" "[I"] ++ wsX20)
def wsX2_read_r1 : List Cond := [Cond.methodLink RX2 26 Lib.Math.max.name, Cond.static Lib.Math.max.name, Cond.initialized "java/lang/Math", Cond.code Lib.Math.max.name Lib.Math.max.code 2 (some .int), Cond.fieldLink RX2 11 "CodeImages$Handlers" "starts" "[I", Cond.fieldLink RX2 17 "CodeImages$Handlers" "counts" "[I", Cond.methodLink RX2 20 yX5_number, Cond.instanceMethod yX5_number, Cond.selects RX5 yX5_number yX5_number, Cond.initialized RX5, Cond.code yX5_number cX5_number 4 (some .int), Cond.fieldLink RX5 31 "CodeImages$Source" "at" "I", Cond.fieldLink RX5 34 "CodeImages$Source" "stopped" "Z", Cond.methodLink RX5 38 yX5_byteAt, Cond.instanceMethod yX5_byteAt, Cond.selects RX5 yX5_byteAt yX5_byteAt, Cond.code yX5_byteAt cX5_byteAt 3 (some .int), Cond.fieldLink RX5 28 "CodeImages$Source" "length" "I", Cond.fieldLink RX5 11 "CodeImages$Source" "words" "[I", Cond.methodLink RX2 31 yX5_place, Cond.instanceMethod yX5_place, Cond.selects RX5 yX5_place yX5_place, Cond.code yX5_place cX5_place 1 (some .int), Cond.methodLink RX2 35 yX5_skip]
def wsX2_read_r2 : List Cond := [Cond.instanceMethod yX5_skip, Cond.selects RX5 yX5_skip yX5_skip, Cond.code yX5_skip cX5_skip 2 none, Cond.methodLink RX5 52 yX5_stopAt, Cond.instanceMethod yX5_stopAt, Cond.selects RX5 yX5_stopAt yX5_stopAt, Cond.code yX5_stopAt cX5_stopAt 2 none]
def wsX2_read : List Cond := .code yX2_read cX2_read 6 none :: ((wsX2_read_r1 ++ wsX2_read_r2) ++ wsX20 ++ wsX50)
def wsX2_size : List Cond := .code yX2_size cX2_size 2 (some .int) :: ([.fieldLink RX2 17 "CodeImages$Handlers" "counts" "[I"] ++ wsX20)
def wsX2_fact : List Cond := .code yX2_fact cX2_fact 6 (some .int) :: ([.fieldLink RX2 11 "CodeImages$Handlers" "starts" "[I", .methodLink RX2 39 yX2_size, .instanceMethod yX2_size, .selects RX2 yX2_size yX2_size, .initialized RX2, .code yX2_size cX2_size 2 (some .int), .fieldLink RX2 17 "CodeImages$Handlers" "counts" "[I", .methodLink RX2 43 yX5_valueAt, .instanceMethod yX5_valueAt, .selects RX5 yX5_valueAt yX5_valueAt, .initialized RX5, .code yX5_valueAt cX5_valueAt 5 (some .int), .methodLink RX5 38 yX5_byteAt, .instanceMethod yX5_byteAt, .selects RX5 yX5_byteAt yX5_byteAt, .code yX5_byteAt cX5_byteAt 3 (some .int), .fieldLink RX5 28 "CodeImages$Source" "length" "I", .fieldLink RX5 11 "CodeImages$Source" "words" "[I", .methodLink RX2 46 yX5_byteAt] ++ wsX20 ++ wsX50)
def wsX2_misfit_r1 : List Cond := [Cond.fieldLink RX2 11 "CodeImages$Handlers" "starts" "[I", Cond.methodLink RX2 39 yX2_size, Cond.instanceMethod yX2_size, Cond.selects RX2 yX2_size yX2_size, Cond.initialized RX2, Cond.code yX2_size cX2_size 2 (some .int), Cond.fieldLink RX2 17 "CodeImages$Handlers" "counts" "[I", Cond.methodLink RX2 43 yX5_valueAt, Cond.instanceMethod yX5_valueAt, Cond.selects RX5 yX5_valueAt yX5_valueAt, Cond.initialized RX5, Cond.code yX5_valueAt cX5_valueAt 5 (some .int), Cond.methodLink RX5 38 yX5_byteAt, Cond.instanceMethod yX5_byteAt, Cond.selects RX5 yX5_byteAt yX5_byteAt, Cond.code yX5_byteAt cX5_byteAt 3 (some .int), Cond.fieldLink RX5 28 "CodeImages$Source" "length" "I", Cond.fieldLink RX5 11 "CodeImages$Source" "words" "[I", Cond.methodLink RX2 49 yX1_beginsAt, Cond.instanceMethod yX1_beginsAt, Cond.selects RX1 yX1_beginsAt yX1_beginsAt, Cond.initialized RX1, Cond.code yX1_beginsAt cX1_beginsAt 5 (some .boolean), Cond.fieldLink RX1 11 "CodeImages$Code" "starts" "[I"]
def wsX2_misfit_r2 : List Cond := [Cond.fieldLink RX1 25 "CodeImages$Code" "begins" "[I", Cond.methodLink RX1 111 yX1_length, Cond.instanceMethod yX1_length, Cond.selects RX1 yX1_length yX1_length, Cond.code yX1_length cX1_length 2 (some .int), Cond.fieldLink RX1 17 "CodeImages$Code" "lengths" "[I", Cond.methodLink RX2 55 yX1_length]
def wsX2_misfit : List Cond := .code yX2_misfit cX2_misfit 9 (some .int) :: ((wsX2_misfit_r1 ++ wsX2_misfit_r2) ++ wsX20 ++ wsX50 ++ wsX10)
def wsX3_init_r1 : List Cond := [Cond.methodLink RX3 3 objectInit, Cond.instanceMethod objectInit, Cond.code objectInit ⟨#[0xb1]⟩ 1 none, Cond.fieldLink RX3 9 "CodeImages$Methods" "first" "I", Cond.arrayClass .int, Cond.fieldLink RX3 15 "CodeImages$Methods" "owners" "[I", Cond.fieldLink RX3 19 "CodeImages$Methods" "parameterCounts" "[I", Cond.fieldLink RX3 22 "CodeImages$Methods" "parameterTypes" "[I", Cond.fieldLink RX3 25 "CodeImages$Methods" "gives" "[I", Cond.fieldLink RX3 28 "CodeImages$Methods" "locals" "[I", Cond.fieldLink RX3 31 "CodeImages$Methods" "stacks" "[I", Cond.classLink RX3 34 RX1, Cond.instantiable RX1 5, Cond.initialized RX1, Cond.fieldLink RX3 37 "CodeImages$Methods" "code" "LCodeImages$Code;", Cond.classLink RX3 41 RX2, Cond.instantiable RX2 2, Cond.initialized RX2, Cond.fieldLink RX3 44 "CodeImages$Methods" "handlers" "LCodeImages$Handlers;", Cond.instanceMethod yX1_init, Cond.code yX1_init cX1_init 1 none, Cond.methodLink RX1 3 objectInit, Cond.fieldLink RX1 11 "CodeImages$Code" "starts" "[I", Cond.fieldLink RX1 17 "CodeImages$Code" "lengths" "[I"]
def wsX3_init_r2 : List Cond := [Cond.fieldLink RX1 20 "CodeImages$Code" "counts" "[I", Cond.fieldLink RX1 25 "CodeImages$Code" "begins" "[I", Cond.instanceMethod yX2_init, Cond.code yX2_init cX2_init 1 none, Cond.methodLink RX2 3 objectInit, Cond.fieldLink RX2 11 "CodeImages$Handlers" "starts" "[I", Cond.fieldLink RX2 17 "CodeImages$Handlers" "counts" "[I"]
def wsX3_init : List Cond := .code yX3_init cX3_init 1 none :: ((wsX3_init_r1 ++ wsX3_init_r2) ++ wsX30 ++ wsX10 ++ wsX20)
def wsX3_clear : List Cond := .code yX3_clear cX3_clear 1 none :: ([.fieldLink RX3 48 "CodeImages$Methods" "count" "I", .fieldLink RX3 9 "CodeImages$Methods" "first" "I", .fieldLink RX3 37 "CodeImages$Methods" "code" "LCodeImages$Code;", .methodLink RX3 51 yX1_clear, .instanceMethod yX1_clear, .selects RX1 yX1_clear yX1_clear, .initialized RX1, .code yX1_clear cX1_clear 1 none, .fieldLink RX1 28 "CodeImages$Code" "total" "I", .fieldLink RX1 25 "CodeImages$Code" "begins" "[I", .methodLink RX1 32 yJ7_fill_53178, .static yJ7_fill_53178, .initialized RJ7, .code yJ7_fill_53178 cJ7_fill_53178 4 none] ++ wsX30 ++ wsX10)
def wsX3_size : List Cond := .code yX3_size cX3_size 1 (some .int) :: ([.fieldLink RX3 48 "CodeImages$Methods" "count" "I"] ++ wsX30)
def wsX3_first : List Cond := .code yX3_first cX3_first 1 (some .int) :: ([.fieldLink RX3 9 "CodeImages$Methods" "first" "I"] ++ wsX30)
def wsX3_instructions : List Cond := .code yX3_instructions cX3_instructions 1 (some .int) :: ([.fieldLink RX3 37 "CodeImages$Methods" "code" "LCodeImages$Code;", .methodLink RX3 54 yX1_total, .instanceMethod yX1_total, .selects RX1 yX1_total yX1_total, .initialized RX1, .code yX1_total cX1_total 1 (some .int), .fieldLink RX1 28 "CodeImages$Code" "total" "I"] ++ wsX30 ++ wsX10)
def wsX3_has : List Cond := .code yX3_has cX3_has 2 (some .boolean) :: ([.fieldLink RX3 48 "CodeImages$Methods" "count" "I"] ++ wsX30)
def wsX3_readParameters_r1 : List Cond := [Cond.fieldLink RX3 15 "CodeImages$Methods" "owners" "[I", Cond.fieldLink RX3 22 "CodeImages$Methods" "parameterTypes" "[I", Cond.methodLink RX3 65 Lib.Math.max.name, Cond.static Lib.Math.max.name, Cond.initialized "java/lang/Math", Cond.code Lib.Math.max.name Lib.Math.max.code 2 (some .int), Cond.fieldLink RX3 19 "CodeImages$Methods" "parameterCounts" "[I", Cond.methodLink RX3 59 yX5_number, Cond.instanceMethod yX5_number, Cond.selects RX5 yX5_number yX5_number, Cond.initialized RX5, Cond.code yX5_number cX5_number 4 (some .int), Cond.fieldLink RX5 31 "CodeImages$Source" "at" "I", Cond.fieldLink RX5 34 "CodeImages$Source" "stopped" "Z", Cond.methodLink RX5 38 yX5_byteAt, Cond.instanceMethod yX5_byteAt, Cond.selects RX5 yX5_byteAt yX5_byteAt, Cond.code yX5_byteAt cX5_byteAt 3 (some .int), Cond.fieldLink RX5 28 "CodeImages$Source" "length" "I", Cond.fieldLink RX5 11 "CodeImages$Source" "words" "[I", Cond.methodLink RX3 103 yX5_type, Cond.instanceMethod yX5_type, Cond.selects RX5 yX5_type yX5_type, Cond.code yX5_type cX5_type 2 (some .int)]
def wsX3_readParameters_r2 : List Cond := [Cond.methodLink RX5 42 yX5_next, Cond.instanceMethod yX5_next, Cond.selects RX5 yX5_next yX5_next, Cond.code yX5_next cX5_next 1 (some .int), Cond.methodLink RX5 45 yX5_number]
def wsX3_readParameters : List Cond := .code yX3_readParameters cX3_readParameters 7 none :: ((wsX3_readParameters_r1 ++ wsX3_readParameters_r2) ++ wsX30 ++ wsX50)
def wsX5_typeOrNothing : List Cond := .code yX5_typeOrNothing cX5_typeOrNothing 2 (some .int) :: ([.methodLink RX5 42 yX5_next, .instanceMethod yX5_next, .selects RX5 yX5_next yX5_next, .initialized RX5, .code yX5_next cX5_next 1 (some .int), .fieldLink RX5 31 "CodeImages$Source" "at" "I", .methodLink RX5 38 yX5_byteAt, .instanceMethod yX5_byteAt, .selects RX5 yX5_byteAt yX5_byteAt, .code yX5_byteAt cX5_byteAt 3 (some .int), .fieldLink RX5 28 "CodeImages$Source" "length" "I", .fieldLink RX5 11 "CodeImages$Source" "words" "[I", .methodLink RX5 45 yX5_number, .instanceMethod yX5_number, .selects RX5 yX5_number yX5_number, .code yX5_number cX5_number 4 (some .int), .fieldLink RX5 34 "CodeImages$Source" "stopped" "Z", .methodLink RX5 49 yX5_type, .instanceMethod yX5_type, .selects RX5 yX5_type yX5_type, .code yX5_type cX5_type 2 (some .int)] ++ wsX50)
def wsX3_readHead_r1 : List Cond := [Cond.fieldLink RX3 15 "CodeImages$Methods" "owners" "[I", Cond.fieldLink RX3 25 "CodeImages$Methods" "gives" "[I", Cond.fieldLink RX3 28 "CodeImages$Methods" "locals" "[I", Cond.fieldLink RX3 19 "CodeImages$Methods" "parameterCounts" "[I", Cond.fieldLink RX3 31 "CodeImages$Methods" "stacks" "[I", Cond.methodLink RX3 93 yX5_numberOrNothing, Cond.instanceMethod yX5_numberOrNothing, Cond.selects RX5 yX5_numberOrNothing yX5_numberOrNothing, Cond.initialized RX5, Cond.code yX5_numberOrNothing cX5_numberOrNothing 2 (some .int), Cond.methodLink RX5 42 yX5_next, Cond.instanceMethod yX5_next, Cond.selects RX5 yX5_next yX5_next, Cond.code yX5_next cX5_next 1 (some .int), Cond.fieldLink RX5 31 "CodeImages$Source" "at" "I", Cond.methodLink RX5 38 yX5_byteAt, Cond.instanceMethod yX5_byteAt, Cond.selects RX5 yX5_byteAt yX5_byteAt, Cond.code yX5_byteAt cX5_byteAt 3 (some .int), Cond.fieldLink RX5 28 "CodeImages$Source" "length" "I", Cond.fieldLink RX5 11 "CodeImages$Source" "words" "[I", Cond.methodLink RX5 45 yX5_number, Cond.instanceMethod yX5_number, Cond.selects RX5 yX5_number yX5_number]
def wsX3_readHead_r2 : List Cond := [Cond.code yX5_number cX5_number 4 (some .int), Cond.fieldLink RX5 34 "CodeImages$Source" "stopped" "Z", Cond.methodLink RX3 97 yX3_readParameters, Cond.instanceMethod yX3_readParameters, Cond.selects RX3 yX3_readParameters yX3_readParameters, Cond.initialized RX3, Cond.code yX3_readParameters cX3_readParameters 7 none, Cond.fieldLink RX3 22 "CodeImages$Methods" "parameterTypes" "[I", Cond.methodLink RX3 65 Lib.Math.max.name, Cond.static Lib.Math.max.name, Cond.initialized "java/lang/Math", Cond.code Lib.Math.max.name Lib.Math.max.code 2 (some .int), Cond.methodLink RX3 59 yX5_number, Cond.methodLink RX3 103 yX5_type, Cond.instanceMethod yX5_type, Cond.selects RX5 yX5_type yX5_type, Cond.code yX5_type cX5_type 2 (some .int), Cond.methodLink RX3 100 yX5_typeOrNothing, Cond.instanceMethod yX5_typeOrNothing, Cond.selects RX5 yX5_typeOrNothing yX5_typeOrNothing, Cond.code yX5_typeOrNothing cX5_typeOrNothing 2 (some .int), Cond.methodLink RX5 49 yX5_type]
def wsX3_readHead : List Cond := .code yX3_readHead cX3_readHead 6 none :: ((wsX3_readHead_r1 ++ wsX3_readHead_r2) ++ wsX30 ++ wsX50)
def wsX3_readFirst_r1 : List Cond := [Cond.fieldLink RX3 15 "CodeImages$Methods" "owners" "[I", Cond.fieldLink RX3 19 "CodeImages$Methods" "parameterCounts" "[I", Cond.fieldLink RX3 9 "CodeImages$Methods" "first" "I", Cond.methodLink RX3 106 yX5_next, Cond.instanceMethod yX5_next, Cond.selects RX5 yX5_next yX5_next, Cond.initialized RX5, Cond.code yX5_next cX5_next 1 (some .int), Cond.fieldLink RX5 31 "CodeImages$Source" "at" "I", Cond.methodLink RX5 38 yX5_byteAt, Cond.instanceMethod yX5_byteAt, Cond.selects RX5 yX5_byteAt yX5_byteAt, Cond.code yX5_byteAt cX5_byteAt 3 (some .int), Cond.fieldLink RX5 28 "CodeImages$Source" "length" "I", Cond.fieldLink RX5 11 "CodeImages$Source" "words" "[I", Cond.methodLink RX3 70 yX5_stopped, Cond.instanceMethod yX5_stopped, Cond.selects RX5 yX5_stopped yX5_stopped, Cond.code yX5_stopped cX5_stopped 1 (some .boolean), Cond.fieldLink RX5 34 "CodeImages$Source" "stopped" "Z", Cond.methodLink RX3 109 yX3_has, Cond.instanceMethod yX3_has, Cond.selects RX3 yX3_has yX3_has, Cond.initialized RX3]
def wsX3_readFirst_r2 : List Cond := [Cond.code yX3_has cX3_has 2 (some .boolean), Cond.fieldLink RX3 48 "CodeImages$Methods" "count" "I", Cond.methodLink RX3 113 yX5_place, Cond.instanceMethod yX5_place, Cond.selects RX5 yX5_place yX5_place, Cond.code yX5_place cX5_place 1 (some .int), Cond.methodLink RX3 116 yX5_stopAt, Cond.instanceMethod yX5_stopAt, Cond.selects RX5 yX5_stopAt yX5_stopAt, Cond.code yX5_stopAt cX5_stopAt 2 none, Cond.methodLink RX3 59 yX5_number, Cond.instanceMethod yX5_number, Cond.selects RX5 yX5_number yX5_number, Cond.code yX5_number cX5_number 4 (some .int)]
def wsX3_readFirst : List Cond := .code yX3_readFirst cX3_readFirst 3 none :: ((wsX3_readFirst_r1 ++ wsX3_readFirst_r2) ++ wsX30 ++ wsX50)
def wsX3_read_r1 : List Cond := [Cond.methodLink RX3 65 Lib.Math.max.name, Cond.static Lib.Math.max.name, Cond.initialized "java/lang/Math", Cond.code Lib.Math.max.name Lib.Math.max.code 2 (some .int), Cond.fieldLink RX3 48 "CodeImages$Methods" "count" "I", Cond.fieldLink RX3 37 "CodeImages$Methods" "code" "LCodeImages$Code;", Cond.fieldLink RX3 28 "CodeImages$Methods" "locals" "[I", Cond.fieldLink RX3 44 "CodeImages$Methods" "handlers" "LCodeImages$Handlers;", Cond.methodLink RX3 58 yX3_clear, Cond.instanceMethod yX3_clear, Cond.selects RX3 yX3_clear yX3_clear, Cond.initialized RX3, Cond.code yX3_clear cX3_clear 1 none, Cond.fieldLink RX3 9 "CodeImages$Methods" "first" "I", Cond.methodLink RX3 51 yX1_clear, Cond.instanceMethod yX1_clear, Cond.selects RX1 yX1_clear yX1_clear, Cond.initialized RX1, Cond.code yX1_clear cX1_clear 1 none, Cond.fieldLink RX1 28 "CodeImages$Code" "total" "I", Cond.fieldLink RX1 25 "CodeImages$Code" "begins" "[I", Cond.methodLink RX1 32 yJ7_fill_53178, Cond.static yJ7_fill_53178, Cond.initialized RJ7]
def wsX3_read_r2 : List Cond := [Cond.code yJ7_fill_53178 cJ7_fill_53178 4 none, Cond.methodLink RX3 59 yX5_number, Cond.instanceMethod yX5_number, Cond.selects RX5 yX5_number yX5_number, Cond.initialized RX5, Cond.code yX5_number cX5_number 4 (some .int), Cond.fieldLink RX5 31 "CodeImages$Source" "at" "I", Cond.fieldLink RX5 34 "CodeImages$Source" "stopped" "Z", Cond.methodLink RX5 38 yX5_byteAt, Cond.instanceMethod yX5_byteAt, Cond.selects RX5 yX5_byteAt yX5_byteAt, Cond.code yX5_byteAt cX5_byteAt 3 (some .int), Cond.fieldLink RX5 28 "CodeImages$Source" "length" "I", Cond.fieldLink RX5 11 "CodeImages$Source" "words" "[I", Cond.methodLink RX3 70 yX5_stopped, Cond.instanceMethod yX5_stopped, Cond.selects RX5 yX5_stopped yX5_stopped, Cond.code yX5_stopped cX5_stopped 1 (some .boolean), Cond.methodLink RX3 74 yX0_size, Cond.instanceMethod yX0_size, Cond.selects RX0 yX0_size yX0_size, Cond.initialized RX0, Cond.code yX0_size cX0_size 1 (some .int), Cond.fieldLink RX0 30 "CodeImages$Classes" "count" "I"]
def wsX3_read_r3 : List Cond := [Cond.methodLink RX3 79 yX3_readHead, Cond.instanceMethod yX3_readHead, Cond.selects RX3 yX3_readHead yX3_readHead, Cond.code yX3_readHead cX3_readHead 6 none, Cond.fieldLink RX3 15 "CodeImages$Methods" "owners" "[I", Cond.fieldLink RX3 25 "CodeImages$Methods" "gives" "[I", Cond.fieldLink RX3 19 "CodeImages$Methods" "parameterCounts" "[I", Cond.fieldLink RX3 31 "CodeImages$Methods" "stacks" "[I", Cond.methodLink RX3 93 yX5_numberOrNothing, Cond.instanceMethod yX5_numberOrNothing, Cond.selects RX5 yX5_numberOrNothing yX5_numberOrNothing, Cond.code yX5_numberOrNothing cX5_numberOrNothing 2 (some .int), Cond.methodLink RX5 42 yX5_next, Cond.instanceMethod yX5_next, Cond.selects RX5 yX5_next yX5_next, Cond.code yX5_next cX5_next 1 (some .int), Cond.methodLink RX5 45 yX5_number, Cond.methodLink RX3 97 yX3_readParameters, Cond.instanceMethod yX3_readParameters, Cond.selects RX3 yX3_readParameters yX3_readParameters, Cond.code yX3_readParameters cX3_readParameters 7 none, Cond.fieldLink RX3 22 "CodeImages$Methods" "parameterTypes" "[I", Cond.methodLink RX3 103 yX5_type, Cond.instanceMethod yX5_type]
def wsX3_read_r4 : List Cond := [Cond.selects RX5 yX5_type yX5_type, Cond.code yX5_type cX5_type 2 (some .int), Cond.methodLink RX3 100 yX5_typeOrNothing, Cond.instanceMethod yX5_typeOrNothing, Cond.selects RX5 yX5_typeOrNothing yX5_typeOrNothing, Cond.code yX5_typeOrNothing cX5_typeOrNothing 2 (some .int), Cond.methodLink RX5 49 yX5_type, Cond.methodLink RX3 83 yX1_read, Cond.instanceMethod yX1_read, Cond.selects RX1 yX1_read yX1_read, Cond.code yX1_read cX1_read 9 none, Cond.methodLink RX1 44 Lib.Math.max.name, Cond.fieldLink RX1 11 "CodeImages$Code" "starts" "[I", Cond.fieldLink RX1 17 "CodeImages$Code" "lengths" "[I", Cond.fieldLink RX1 20 "CodeImages$Code" "counts" "[I", Cond.methodLink RX1 38 yX5_pair, Cond.instanceMethod yX5_pair, Cond.selects RX5 yX5_pair yX5_pair, Cond.code yX5_pair cX5_pair 5 (some .int), Cond.methodLink RX1 49 yX5_place, Cond.instanceMethod yX5_place, Cond.selects RX5 yX5_place yX5_place, Cond.code yX5_place cX5_place 1 (some .int), Cond.methodLink RX1 53 yX5_stopped]
def wsX3_read_r5 : List Cond := [Cond.methodLink RX1 57 yX1_readInstruction, Cond.instanceMethod yX1_readInstruction, Cond.selects RX1 yX1_readInstruction yX1_readInstruction, Cond.code yX1_readInstruction cX1_readInstruction 9 none, Cond.methodLink RX1 63 yX5_number, Cond.methodLink RX1 66 yX4_length, Cond.static yX4_length, Cond.initialized RX4, Cond.code yX4_length cX4_length 1 (some .int), Cond.methodLink RX4 19 yX4_first, Cond.static yX4_first, Cond.code yX4_first cX4_first 1 (some .int), Cond.fieldLink RX4 7 "CodeImages$Operands" "FIRSTS" "[I", Cond.methodLink RX4 23 yX4_width, Cond.static yX4_width, Cond.code yX4_width cX4_width 1 (some .int), Cond.fieldLink RX4 16 "CodeImages$Operands" "WIDTHS" "[I", Cond.methodLink RX4 26 yX4_second, Cond.static yX4_second, Cond.code yX4_second cX4_second 1 (some .int), Cond.fieldLink RX4 13 "CodeImages$Operands" "SECONDS" "[I", Cond.methodLink RX1 70 yX5_stopAt, Cond.instanceMethod yX5_stopAt, Cond.selects RX5 yX5_stopAt yX5_stopAt]
def wsX3_read_r6 : List Cond := [Cond.code yX5_stopAt cX5_stopAt 2 none, Cond.methodLink RX1 74 yX1_markBegin, Cond.instanceMethod yX1_markBegin, Cond.selects RX1 yX1_markBegin yX1_markBegin, Cond.code yX1_markBegin cX1_markBegin 3 none, Cond.methodLink RX1 77 yX4_first, Cond.methodLink RX1 80 yX1_readOperand, Cond.static yX1_readOperand, Cond.code yX1_readOperand cX1_readOperand 4 (some .int), Cond.methodLink RX1 96 yX0_size, Cond.methodLink RX1 99 yX4_width, Cond.methodLink RX1 102 yX5_skip, Cond.instanceMethod yX5_skip, Cond.selects RX5 yX5_skip yX5_skip, Cond.code yX5_skip cX5_skip 2 none, Cond.methodLink RX5 52 yX5_stopAt, Cond.methodLink RX1 84 yX4_second, Cond.methodLink RX1 87 yX0_fields, Cond.instanceMethod yX0_fields, Cond.selects RX0 yX0_fields yX0_fields, Cond.code yX0_fields cX0_fields 2 (some .int), Cond.fieldLink RX0 15 "CodeImages$Classes" "fieldCounts" "[I", Cond.methodLink RX0 83 yX0_has, Cond.instanceMethod yX0_has]
def wsX3_read_r7 : List Cond := [Cond.selects RX0 yX0_has yX0_has, Cond.code yX0_has cX0_has 2 (some .boolean), Cond.methodLink RX1 92 yX1_readSlot, Cond.static yX1_readSlot, Cond.code yX1_readSlot cX1_readSlot 4 none, Cond.methodLink RX1 105 yX5_next, Cond.methodLink RX1 108 yX0_slotMethod, Cond.instanceMethod yX0_slotMethod, Cond.selects RX0 yX0_slotMethod yX0_slotMethod, Cond.code yX0_slotMethod cX0_slotMethod 3 (some .int), Cond.fieldLink RX0 21 "CodeImages$Classes" "slotMethods" "[I", Cond.methodLink RX3 87 yX2_read, Cond.instanceMethod yX2_read, Cond.selects RX2 yX2_read yX2_read, Cond.initialized RX2, Cond.code yX2_read cX2_read 6 none, Cond.methodLink RX2 26 Lib.Math.max.name, Cond.fieldLink RX2 11 "CodeImages$Handlers" "starts" "[I", Cond.fieldLink RX2 17 "CodeImages$Handlers" "counts" "[I", Cond.methodLink RX2 20 yX5_number, Cond.methodLink RX2 31 yX5_place, Cond.methodLink RX2 35 yX5_skip, Cond.methodLink RX3 89 yX3_readFirst, Cond.instanceMethod yX3_readFirst]
def wsX3_read_r8 : List Cond := [Cond.selects RX3 yX3_readFirst yX3_readFirst, Cond.code yX3_readFirst cX3_readFirst 3 none, Cond.methodLink RX3 106 yX5_next, Cond.methodLink RX3 109 yX3_has, Cond.instanceMethod yX3_has, Cond.selects RX3 yX3_has yX3_has, Cond.code yX3_has cX3_has 2 (some .boolean), Cond.methodLink RX3 113 yX5_place, Cond.methodLink RX3 116 yX5_stopAt]
def wsX3_read : List Cond := .code yX3_read cX3_read 4 none :: ((wsX3_read_r1 ++ (wsX3_read_r2 ++ (wsX3_read_r3 ++ (wsX3_read_r4 ++ (wsX3_read_r5 ++ (wsX3_read_r6 ++ (wsX3_read_r7 ++ wsX3_read_r8))))))) ++ wsX30 ++ wsX10 ++ wsX50 ++ wsX00 ++ wsX20)
def wsX3_parameterType : List Cond := .code yX3_parameterType cX3_parameterType 3 (some .int) :: ([.fieldLink RX3 19 "CodeImages$Methods" "parameterCounts" "[I", .fieldLink RX3 22 "CodeImages$Methods" "parameterTypes" "[I"] ++ wsX30)
def wsX3_fact_r1 : List Cond := [Cond.fieldLink RX3 15 "CodeImages$Methods" "owners" "[I", Cond.fieldLink RX3 19 "CodeImages$Methods" "parameterCounts" "[I", Cond.fieldLink RX3 25 "CodeImages$Methods" "gives" "[I", Cond.fieldLink RX3 28 "CodeImages$Methods" "locals" "[I", Cond.fieldLink RX3 31 "CodeImages$Methods" "stacks" "[I", Cond.fieldLink RX3 37 "CodeImages$Methods" "code" "LCodeImages$Code;", Cond.fieldLink RX3 44 "CodeImages$Methods" "handlers" "LCodeImages$Handlers;", Cond.methodLink RX3 109 yX3_has, Cond.instanceMethod yX3_has, Cond.selects RX3 yX3_has yX3_has, Cond.initialized RX3, Cond.code yX3_has cX3_has 2 (some .boolean), Cond.fieldLink RX3 48 "CodeImages$Methods" "count" "I", Cond.methodLink RX3 120 yX3_parameterType, Cond.instanceMethod yX3_parameterType, Cond.selects RX3 yX3_parameterType yX3_parameterType, Cond.code yX3_parameterType cX3_parameterType 3 (some .int), Cond.fieldLink RX3 22 "CodeImages$Methods" "parameterTypes" "[I", Cond.methodLink RX3 123 yX1_length, Cond.instanceMethod yX1_length, Cond.selects RX1 yX1_length yX1_length, Cond.initialized RX1, Cond.code yX1_length cX1_length 2 (some .int), Cond.fieldLink RX1 17 "CodeImages$Code" "lengths" "[I"]
def wsX3_fact_r2 : List Cond := [Cond.methodLink RX3 126 yX1_size, Cond.instanceMethod yX1_size, Cond.selects RX1 yX1_size yX1_size, Cond.code yX1_size cX1_size 2 (some .int), Cond.fieldLink RX1 20 "CodeImages$Code" "counts" "[I", Cond.methodLink RX3 128 yX1_placeOf, Cond.instanceMethod yX1_placeOf, Cond.selects RX1 yX1_placeOf yX1_placeOf, Cond.code yX1_placeOf cX1_placeOf 6 (some .int), Cond.fieldLink RX1 11 "CodeImages$Code" "starts" "[I", Cond.methodLink RX1 112 yX1_size, Cond.methodLink RX1 114 yX5_byteAt, Cond.instanceMethod yX5_byteAt, Cond.selects RX5 yX5_byteAt yX5_byteAt, Cond.initialized RX5, Cond.code yX5_byteAt cX5_byteAt 3 (some .int), Cond.fieldLink RX5 28 "CodeImages$Source" "length" "I", Cond.fieldLink RX5 11 "CodeImages$Source" "words" "[I", Cond.methodLink RX1 66 yX4_length, Cond.static yX4_length, Cond.initialized RX4, Cond.code yX4_length cX4_length 1 (some .int), Cond.methodLink RX4 19 yX4_first, Cond.static yX4_first]
def wsX3_fact_r3 : List Cond := [Cond.code yX4_first cX4_first 1 (some .int), Cond.fieldLink RX4 7 "CodeImages$Operands" "FIRSTS" "[I", Cond.methodLink RX4 23 yX4_width, Cond.static yX4_width, Cond.code yX4_width cX4_width 1 (some .int), Cond.fieldLink RX4 16 "CodeImages$Operands" "WIDTHS" "[I", Cond.methodLink RX4 26 yX4_second, Cond.static yX4_second, Cond.code yX4_second cX4_second 1 (some .int), Cond.fieldLink RX4 13 "CodeImages$Operands" "SECONDS" "[I", Cond.methodLink RX3 132 yX2_size, Cond.instanceMethod yX2_size, Cond.selects RX2 yX2_size yX2_size, Cond.initialized RX2, Cond.code yX2_size cX2_size 2 (some .int), Cond.fieldLink RX2 17 "CodeImages$Handlers" "counts" "[I"]
def wsX3_fact : List Cond := .code yX3_fact cX3_fact 5 (some .int) :: ((wsX3_fact_r1 ++ (wsX3_fact_r2 ++ wsX3_fact_r3)) ++ wsX30 ++ wsX10 ++ wsX50 ++ wsX20)
def wsX3_handlerFact_r1 : List Cond := [Cond.fieldLink RX3 44 "CodeImages$Methods" "handlers" "LCodeImages$Handlers;", Cond.methodLink RX3 109 yX3_has, Cond.instanceMethod yX3_has, Cond.selects RX3 yX3_has yX3_has, Cond.initialized RX3, Cond.code yX3_has cX3_has 2 (some .boolean), Cond.fieldLink RX3 48 "CodeImages$Methods" "count" "I", Cond.methodLink RX3 133 yX2_fact, Cond.instanceMethod yX2_fact, Cond.selects RX2 yX2_fact yX2_fact, Cond.initialized RX2, Cond.code yX2_fact cX2_fact 6 (some .int), Cond.fieldLink RX2 11 "CodeImages$Handlers" "starts" "[I", Cond.methodLink RX2 39 yX2_size, Cond.instanceMethod yX2_size, Cond.selects RX2 yX2_size yX2_size, Cond.code yX2_size cX2_size 2 (some .int), Cond.fieldLink RX2 17 "CodeImages$Handlers" "counts" "[I", Cond.methodLink RX2 43 yX5_valueAt, Cond.instanceMethod yX5_valueAt, Cond.selects RX5 yX5_valueAt yX5_valueAt, Cond.initialized RX5, Cond.code yX5_valueAt cX5_valueAt 5 (some .int), Cond.methodLink RX5 38 yX5_byteAt]
def wsX3_handlerFact_r2 : List Cond := [Cond.instanceMethod yX5_byteAt, Cond.selects RX5 yX5_byteAt yX5_byteAt, Cond.code yX5_byteAt cX5_byteAt 3 (some .int), Cond.fieldLink RX5 28 "CodeImages$Source" "length" "I", Cond.fieldLink RX5 11 "CodeImages$Source" "words" "[I", Cond.methodLink RX2 46 yX5_byteAt]
def wsX3_handlerFact : List Cond := .code yX3_handlerFact cX3_handlerFact 5 (some .int) :: ((wsX3_handlerFact_r1 ++ wsX3_handlerFact_r2) ++ wsX30 ++ wsX20 ++ wsX50)
def wsX3_instructionFact_r1 : List Cond := [Cond.fieldLink RX3 37 "CodeImages$Methods" "code" "LCodeImages$Code;", Cond.methodLink RX3 109 yX3_has, Cond.instanceMethod yX3_has, Cond.selects RX3 yX3_has yX3_has, Cond.initialized RX3, Cond.code yX3_has cX3_has 2 (some .boolean), Cond.fieldLink RX3 48 "CodeImages$Methods" "count" "I", Cond.methodLink RX3 137 yX1_fact, Cond.instanceMethod yX1_fact, Cond.selects RX1 yX1_fact yX1_fact, Cond.initialized RX1, Cond.code yX1_fact cX1_fact 8 (some .int), Cond.fieldLink RX1 11 "CodeImages$Code" "starts" "[I", Cond.methodLink RX1 117 yX1_beginsAt, Cond.instanceMethod yX1_beginsAt, Cond.selects RX1 yX1_beginsAt yX1_beginsAt, Cond.code yX1_beginsAt cX1_beginsAt 5 (some .boolean), Cond.fieldLink RX1 25 "CodeImages$Code" "begins" "[I", Cond.methodLink RX1 111 yX1_length, Cond.instanceMethod yX1_length, Cond.selects RX1 yX1_length yX1_length, Cond.code yX1_length cX1_length 2 (some .int), Cond.fieldLink RX1 17 "CodeImages$Code" "lengths" "[I", Cond.methodLink RX1 114 yX5_byteAt]
def wsX3_instructionFact_r2 : List Cond := [Cond.instanceMethod yX5_byteAt, Cond.selects RX5 yX5_byteAt yX5_byteAt, Cond.initialized RX5, Cond.code yX5_byteAt cX5_byteAt 3 (some .int), Cond.fieldLink RX5 28 "CodeImages$Source" "length" "I", Cond.fieldLink RX5 11 "CodeImages$Source" "words" "[I", Cond.methodLink RX1 77 yX4_first, Cond.static yX4_first, Cond.initialized RX4, Cond.code yX4_first cX4_first 1 (some .int), Cond.fieldLink RX4 7 "CodeImages$Operands" "FIRSTS" "[I", Cond.methodLink RX1 99 yX4_width, Cond.static yX4_width, Cond.code yX4_width cX4_width 1 (some .int), Cond.fieldLink RX4 16 "CodeImages$Operands" "WIDTHS" "[I", Cond.methodLink RX1 121 yX5_valueAt, Cond.instanceMethod yX5_valueAt, Cond.selects RX5 yX5_valueAt yX5_valueAt, Cond.code yX5_valueAt cX5_valueAt 5 (some .int), Cond.methodLink RX5 38 yX5_byteAt, Cond.methodLink RX1 84 yX4_second, Cond.static yX4_second, Cond.code yX4_second cX4_second 1 (some .int), Cond.fieldLink RX4 13 "CodeImages$Operands" "SECONDS" "[I"]
def wsX3_instructionFact_r3 : List Cond := [Cond.methodLink RX1 66 yX4_length, Cond.static yX4_length, Cond.code yX4_length cX4_length 1 (some .int), Cond.methodLink RX4 19 yX4_first, Cond.methodLink RX4 23 yX4_width, Cond.methodLink RX4 26 yX4_second]
def wsX3_instructionFact : List Cond := .code yX3_instructionFact cX3_instructionFact 5 (some .int) :: ((wsX3_instructionFact_r1 ++ (wsX3_instructionFact_r2 ++ wsX3_instructionFact_r3)) ++ wsX30 ++ wsX10 ++ wsX50)
def wsX3_standsFor : List Cond := .code yX3_standsFor cX3_standsFor 4 (some .boolean) :: ([.fieldLink RX3 25 "CodeImages$Methods" "gives" "[I", .fieldLink RX3 19 "CodeImages$Methods" "parameterCounts" "[I", .methodLink RX3 109 yX3_has, .instanceMethod yX3_has, .selects RX3 yX3_has yX3_has, .initialized RX3, .code yX3_has cX3_has 2 (some .boolean), .fieldLink RX3 48 "CodeImages$Methods" "count" "I", .methodLink RX3 120 yX3_parameterType, .instanceMethod yX3_parameterType, .selects RX3 yX3_parameterType yX3_parameterType, .code yX3_parameterType cX3_parameterType 3 (some .int), .fieldLink RX3 22 "CodeImages$Methods" "parameterTypes" "[I"] ++ wsX30)
def wsX3_fitsSlot_r1 : List Cond := [Cond.fieldLink RX3 15 "CodeImages$Methods" "owners" "[I", Cond.methodLink RX3 155 yX0_slotMethod, Cond.instanceMethod yX0_slotMethod, Cond.selects RX0 yX0_slotMethod yX0_slotMethod, Cond.initialized RX0, Cond.code yX0_slotMethod cX0_slotMethod 3 (some .int), Cond.fieldLink RX0 21 "CodeImages$Classes" "slotMethods" "[I", Cond.methodLink RX0 83 yX0_has, Cond.instanceMethod yX0_has, Cond.selects RX0 yX0_has yX0_has, Cond.code yX0_has cX0_has 2 (some .boolean), Cond.fieldLink RX0 30 "CodeImages$Classes" "count" "I", Cond.methodLink RX3 158 yX0_upper, Cond.instanceMethod yX0_upper, Cond.selects RX0 yX0_upper yX0_upper, Cond.code yX0_upper cX0_upper 2 (some .int), Cond.fieldLink RX0 11 "CodeImages$Classes" "uppers" "[I", Cond.methodLink RX3 109 yX3_has, Cond.instanceMethod yX3_has, Cond.selects RX3 yX3_has yX3_has, Cond.initialized RX3, Cond.code yX3_has cX3_has 2 (some .boolean), Cond.fieldLink RX3 48 "CodeImages$Methods" "count" "I", Cond.methodLink RX3 161 yX3_standsFor]
def wsX3_fitsSlot_r2 : List Cond := [Cond.instanceMethod yX3_standsFor, Cond.selects RX3 yX3_standsFor yX3_standsFor, Cond.code yX3_standsFor cX3_standsFor 4 (some .boolean), Cond.fieldLink RX3 25 "CodeImages$Methods" "gives" "[I", Cond.fieldLink RX3 19 "CodeImages$Methods" "parameterCounts" "[I", Cond.methodLink RX3 120 yX3_parameterType, Cond.instanceMethod yX3_parameterType, Cond.selects RX3 yX3_parameterType yX3_parameterType, Cond.code yX3_parameterType cX3_parameterType 3 (some .int), Cond.fieldLink RX3 22 "CodeImages$Methods" "parameterTypes" "[I"]
def wsX3_fitsSlot : List Cond := .code yX3_fitsSlot cX3_fitsSlot 6 (some .boolean) :: ((wsX3_fitsSlot_r1 ++ wsX3_fitsSlot_r2) ++ wsX30 ++ wsX00)
def wsX3_misfitSlot_r1 : List Cond := [Cond.methodLink RX3 148 yX0_slotPlace, Cond.instanceMethod yX0_slotPlace, Cond.selects RX0 yX0_slotPlace yX0_slotPlace, Cond.initialized RX0, Cond.code yX0_slotPlace cX0_slotPlace 3 (some .int), Cond.fieldLink RX0 24 "CodeImages$Classes" "slotPlaces" "[I", Cond.methodLink RX0 83 yX0_has, Cond.instanceMethod yX0_has, Cond.selects RX0 yX0_has yX0_has, Cond.code yX0_has cX0_has 2 (some .boolean), Cond.fieldLink RX0 30 "CodeImages$Classes" "count" "I", Cond.methodLink RX3 151 yX3_fitsSlot, Cond.instanceMethod yX3_fitsSlot, Cond.selects RX3 yX3_fitsSlot yX3_fitsSlot, Cond.initialized RX3, Cond.code yX3_fitsSlot cX3_fitsSlot 6 (some .boolean), Cond.fieldLink RX3 15 "CodeImages$Methods" "owners" "[I", Cond.methodLink RX3 155 yX0_slotMethod, Cond.instanceMethod yX0_slotMethod, Cond.selects RX0 yX0_slotMethod yX0_slotMethod, Cond.code yX0_slotMethod cX0_slotMethod 3 (some .int), Cond.fieldLink RX0 21 "CodeImages$Classes" "slotMethods" "[I", Cond.methodLink RX3 158 yX0_upper, Cond.instanceMethod yX0_upper]
def wsX3_misfitSlot_r2 : List Cond := [Cond.selects RX0 yX0_upper yX0_upper, Cond.code yX0_upper cX0_upper 2 (some .int), Cond.fieldLink RX0 11 "CodeImages$Classes" "uppers" "[I", Cond.methodLink RX3 109 yX3_has, Cond.instanceMethod yX3_has, Cond.selects RX3 yX3_has yX3_has, Cond.code yX3_has cX3_has 2 (some .boolean), Cond.fieldLink RX3 48 "CodeImages$Methods" "count" "I", Cond.methodLink RX3 161 yX3_standsFor, Cond.instanceMethod yX3_standsFor, Cond.selects RX3 yX3_standsFor yX3_standsFor, Cond.code yX3_standsFor cX3_standsFor 4 (some .boolean), Cond.fieldLink RX3 25 "CodeImages$Methods" "gives" "[I", Cond.fieldLink RX3 19 "CodeImages$Methods" "parameterCounts" "[I", Cond.methodLink RX3 120 yX3_parameterType, Cond.instanceMethod yX3_parameterType, Cond.selects RX3 yX3_parameterType yX3_parameterType, Cond.code yX3_parameterType cX3_parameterType 3 (some .int), Cond.fieldLink RX3 22 "CodeImages$Methods" "parameterTypes" "[I"]
def wsX3_misfitSlot : List Cond := .code yX3_misfitSlot cX3_misfitSlot 5 (some .int) :: ((wsX3_misfitSlot_r1 ++ wsX3_misfitSlot_r2) ++ wsX00 ++ wsX30)
def wsX3_misfit_r1 : List Cond := [Cond.fieldLink RX3 48 "CodeImages$Methods" "count" "I", Cond.fieldLink RX3 37 "CodeImages$Methods" "code" "LCodeImages$Code;", Cond.fieldLink RX3 44 "CodeImages$Methods" "handlers" "LCodeImages$Handlers;", Cond.methodLink RX3 74 yX0_size, Cond.instanceMethod yX0_size, Cond.selects RX0 yX0_size yX0_size, Cond.initialized RX0, Cond.code yX0_size cX0_size 1 (some .int), Cond.fieldLink RX0 30 "CodeImages$Classes" "count" "I", Cond.methodLink RX3 138 yX3_misfitSlot, Cond.instanceMethod yX3_misfitSlot, Cond.selects RX3 yX3_misfitSlot yX3_misfitSlot, Cond.initialized RX3, Cond.code yX3_misfitSlot cX3_misfitSlot 5 (some .int), Cond.methodLink RX3 148 yX0_slotPlace, Cond.instanceMethod yX0_slotPlace, Cond.selects RX0 yX0_slotPlace yX0_slotPlace, Cond.code yX0_slotPlace cX0_slotPlace 3 (some .int), Cond.fieldLink RX0 24 "CodeImages$Classes" "slotPlaces" "[I", Cond.methodLink RX0 83 yX0_has, Cond.instanceMethod yX0_has, Cond.selects RX0 yX0_has yX0_has, Cond.code yX0_has cX0_has 2 (some .boolean), Cond.methodLink RX3 151 yX3_fitsSlot]
def wsX3_misfit_r2 : List Cond := [Cond.instanceMethod yX3_fitsSlot, Cond.selects RX3 yX3_fitsSlot yX3_fitsSlot, Cond.code yX3_fitsSlot cX3_fitsSlot 6 (some .boolean), Cond.fieldLink RX3 15 "CodeImages$Methods" "owners" "[I", Cond.methodLink RX3 155 yX0_slotMethod, Cond.instanceMethod yX0_slotMethod, Cond.selects RX0 yX0_slotMethod yX0_slotMethod, Cond.code yX0_slotMethod cX0_slotMethod 3 (some .int), Cond.fieldLink RX0 21 "CodeImages$Classes" "slotMethods" "[I", Cond.methodLink RX3 158 yX0_upper, Cond.instanceMethod yX0_upper, Cond.selects RX0 yX0_upper yX0_upper, Cond.code yX0_upper cX0_upper 2 (some .int), Cond.fieldLink RX0 11 "CodeImages$Classes" "uppers" "[I", Cond.methodLink RX3 109 yX3_has, Cond.instanceMethod yX3_has, Cond.selects RX3 yX3_has yX3_has, Cond.code yX3_has cX3_has 2 (some .boolean), Cond.methodLink RX3 161 yX3_standsFor, Cond.instanceMethod yX3_standsFor, Cond.selects RX3 yX3_standsFor yX3_standsFor, Cond.code yX3_standsFor cX3_standsFor 4 (some .boolean), Cond.fieldLink RX3 25 "CodeImages$Methods" "gives" "[I", Cond.fieldLink RX3 19 "CodeImages$Methods" "parameterCounts" "[I"]
def wsX3_misfit_r3 : List Cond := [Cond.methodLink RX3 120 yX3_parameterType, Cond.instanceMethod yX3_parameterType, Cond.selects RX3 yX3_parameterType yX3_parameterType, Cond.code yX3_parameterType cX3_parameterType 3 (some .int), Cond.fieldLink RX3 22 "CodeImages$Methods" "parameterTypes" "[I", Cond.methodLink RX3 142 yX1_misfit, Cond.instanceMethod yX1_misfit, Cond.selects RX1 yX1_misfit yX1_misfit, Cond.initialized RX1, Cond.code yX1_misfit cX1_misfit 10 (some .int), Cond.fieldLink RX1 11 "CodeImages$Code" "starts" "[I", Cond.methodLink RX1 112 yX1_size, Cond.instanceMethod yX1_size, Cond.selects RX1 yX1_size yX1_size, Cond.code yX1_size cX1_size 2 (some .int), Cond.fieldLink RX1 20 "CodeImages$Code" "counts" "[I", Cond.methodLink RX1 114 yX5_byteAt, Cond.instanceMethod yX5_byteAt, Cond.selects RX5 yX5_byteAt yX5_byteAt, Cond.initialized RX5, Cond.code yX5_byteAt cX5_byteAt 3 (some .int), Cond.fieldLink RX5 28 "CodeImages$Source" "length" "I", Cond.fieldLink RX5 11 "CodeImages$Source" "words" "[I", Cond.methodLink RX1 77 yX4_first]
def wsX3_misfit_r4 : List Cond := [Cond.static yX4_first, Cond.initialized RX4, Cond.code yX4_first cX4_first 1 (some .int), Cond.fieldLink RX4 7 "CodeImages$Operands" "FIRSTS" "[I", Cond.methodLink RX1 99 yX4_width, Cond.static yX4_width, Cond.code yX4_width cX4_width 1 (some .int), Cond.fieldLink RX4 16 "CodeImages$Operands" "WIDTHS" "[I", Cond.methodLink RX1 121 yX5_valueAt, Cond.instanceMethod yX5_valueAt, Cond.selects RX5 yX5_valueAt yX5_valueAt, Cond.code yX5_valueAt cX5_valueAt 5 (some .int), Cond.methodLink RX5 38 yX5_byteAt, Cond.methodLink RX1 117 yX1_beginsAt, Cond.instanceMethod yX1_beginsAt, Cond.selects RX1 yX1_beginsAt yX1_beginsAt, Cond.code yX1_beginsAt cX1_beginsAt 5 (some .boolean), Cond.fieldLink RX1 25 "CodeImages$Code" "begins" "[I", Cond.methodLink RX1 111 yX1_length, Cond.instanceMethod yX1_length, Cond.selects RX1 yX1_length yX1_length, Cond.code yX1_length cX1_length 2 (some .int), Cond.fieldLink RX1 17 "CodeImages$Code" "lengths" "[I", Cond.methodLink RX1 84 yX4_second]
def wsX3_misfit_r5 : List Cond := [Cond.static yX4_second, Cond.code yX4_second cX4_second 1 (some .int), Cond.fieldLink RX4 13 "CodeImages$Operands" "SECONDS" "[I", Cond.methodLink RX1 66 yX4_length, Cond.static yX4_length, Cond.code yX4_length cX4_length 1 (some .int), Cond.methodLink RX4 19 yX4_first, Cond.methodLink RX4 23 yX4_width, Cond.methodLink RX4 26 yX4_second, Cond.methodLink RX3 145 yX2_misfit, Cond.instanceMethod yX2_misfit, Cond.selects RX2 yX2_misfit yX2_misfit, Cond.initialized RX2, Cond.code yX2_misfit cX2_misfit 9 (some .int), Cond.fieldLink RX2 11 "CodeImages$Handlers" "starts" "[I", Cond.methodLink RX2 39 yX2_size, Cond.instanceMethod yX2_size, Cond.selects RX2 yX2_size yX2_size, Cond.code yX2_size cX2_size 2 (some .int), Cond.fieldLink RX2 17 "CodeImages$Handlers" "counts" "[I", Cond.methodLink RX2 43 yX5_valueAt, Cond.methodLink RX2 49 yX1_beginsAt, Cond.methodLink RX2 55 yX1_length]
def wsX3_misfit : List Cond := .code yX3_misfit cX3_misfit 6 (some .int) :: ((wsX3_misfit_r1 ++ (wsX3_misfit_r2 ++ (wsX3_misfit_r3 ++ (wsX3_misfit_r4 ++ wsX3_misfit_r5)))) ++ wsX30 ++ wsX00 ++ wsX10 ++ wsX50 ++ wsX20)
def wsX5_init : List Cond := .code yX5_init cX5_init 1 none :: ([.methodLink RX5 3 objectInit, .instanceMethod objectInit, .code objectInit ⟨#[0xb1]⟩ 1 none, .arrayClass .int, .fieldLink RX5 11 "CodeImages$Source" "words" "[I"] ++ wsX50)
def wsX6_length : List Cond := .code yX6_length cX6_length 1 (some .int) :: ([.fieldLink RX6 13 "CodeImages$Tape" "used" "I"] ++ wsX60)
def wsX6_clear : List Cond := .code yX6_clear cX6_clear 1 none :: ([.fieldLink RX6 13 "CodeImages$Tape" "used" "I"] ++ wsX60)
def wsX6_exchange : List Cond := .code yX6_exchange cX6_exchange 3 (some (.array .int)) :: ([.fieldLink RX6 9 "CodeImages$Tape" "words" "[I", .fieldLink RX6 13 "CodeImages$Tape" "used" "I"] ++ wsX60)
def wsX5_take : List Cond := .code yX5_take cX5_take 3 (some .boolean) :: ([.fieldLink RX5 11 "CodeImages$Source" "words" "[I", .fieldLink RX5 28 "CodeImages$Source" "length" "I", .fieldLink RX5 31 "CodeImages$Source" "at" "I", .fieldLink RX5 34 "CodeImages$Source" "stopped" "Z", .methodLink RX5 17 yX6_length, .instanceMethod yX6_length, .selects RX6 yX6_length yX6_length, .initialized RX6, .code yX6_length cX6_length 1 (some .int), .fieldLink RX6 13 "CodeImages$Tape" "used" "I", .methodLink RX5 21 yX6_clear, .instanceMethod yX6_clear, .selects RX6 yX6_clear yX6_clear, .code yX6_clear cX6_clear 1 none, .methodLink RX5 24 yX6_exchange, .instanceMethod yX6_exchange, .selects RX6 yX6_exchange yX6_exchange, .code yX6_exchange cX6_exchange 3 (some (.array .int)), .fieldLink RX6 9 "CodeImages$Tape" "words" "[I"] ++ wsX50 ++ wsX60)
def wsX5_close : List Cond := .code yX5_close cX5_close 1 none :: ([.fieldLink RX5 31 "CodeImages$Source" "at" "I", .fieldLink RX5 28 "CodeImages$Source" "length" "I", .fieldLink RX5 34 "CodeImages$Source" "stopped" "Z"] ++ wsX50)
def wsX6_init : List Cond := .code yX6_init cX6_init 1 none :: ([.methodLink RX6 1 objectInit, .instanceMethod objectInit, .code objectInit ⟨#[0xb1]⟩ 1 none, .arrayClass .int, .fieldLink RX6 9 "CodeImages$Tape" "words" "[I"] ++ wsX60)
def wsX6_add : List Cond := .code yX6_add cX6_add 6 (some .boolean) :: ([.fieldLink RX6 13 "CodeImages$Tape" "used" "I", .fieldLink RX6 9 "CodeImages$Tape" "words" "[I"] ++ wsX60)
def wsX7_init_r1 : List Cond := [Cond.methodLink RX7 1 objectInit, Cond.instanceMethod objectInit, Cond.code objectInit ⟨#[0xb1]⟩ 1 none, Cond.classLink RX7 7 RX6, Cond.instantiable RX6 2, Cond.initialized RX6, Cond.fieldLink RX7 10 "CodeImages" "tape" "LCodeImages$Tape;", Cond.classLink RX7 16 RX5, Cond.instantiable RX5 4, Cond.initialized RX5, Cond.fieldLink RX7 19 "CodeImages" "image" "LCodeImages$Source;", Cond.classLink RX7 23 RX0, Cond.instantiable RX0 7, Cond.initialized RX0, Cond.fieldLink RX7 26 "CodeImages" "classes" "LCodeImages$Classes;", Cond.classLink RX7 30 RX3, Cond.instantiable RX3 10, Cond.initialized RX3, Cond.fieldLink RX7 33 "CodeImages" "methods" "LCodeImages$Methods;", Cond.instanceMethod yX6_init, Cond.code yX6_init cX6_init 1 none, Cond.methodLink RX6 1 objectInit, Cond.arrayClass .int, Cond.fieldLink RX6 9 "CodeImages$Tape" "words" "[I"]
def wsX7_init_r2 : List Cond := [Cond.instanceMethod yX5_init, Cond.code yX5_init cX5_init 1 none, Cond.methodLink RX5 3 objectInit, Cond.fieldLink RX5 11 "CodeImages$Source" "words" "[I", Cond.instanceMethod yX0_init, Cond.code yX0_init cX0_init 1 none, Cond.methodLink RX0 3 objectInit, Cond.fieldLink RX0 11 "CodeImages$Classes" "uppers" "[I", Cond.fieldLink RX0 15 "CodeImages$Classes" "fieldCounts" "[I", Cond.fieldLink RX0 18 "CodeImages$Classes" "fieldTypes" "[I", Cond.fieldLink RX0 21 "CodeImages$Classes" "slotMethods" "[I", Cond.fieldLink RX0 24 "CodeImages$Classes" "slotPlaces" "[I", Cond.fieldLink RX0 27 "CodeImages$Classes" "faults" "[I", Cond.instanceMethod yX3_init, Cond.code yX3_init cX3_init 1 none, Cond.methodLink RX3 3 objectInit, Cond.fieldLink RX3 9 "CodeImages$Methods" "first" "I", Cond.fieldLink RX3 15 "CodeImages$Methods" "owners" "[I", Cond.fieldLink RX3 19 "CodeImages$Methods" "parameterCounts" "[I", Cond.fieldLink RX3 22 "CodeImages$Methods" "parameterTypes" "[I", Cond.fieldLink RX3 25 "CodeImages$Methods" "gives" "[I", Cond.fieldLink RX3 28 "CodeImages$Methods" "locals" "[I", Cond.fieldLink RX3 31 "CodeImages$Methods" "stacks" "[I", Cond.classLink RX3 34 RX1]
def wsX7_init_r3 : List Cond := [Cond.instantiable RX1 5, Cond.initialized RX1, Cond.fieldLink RX3 37 "CodeImages$Methods" "code" "LCodeImages$Code;", Cond.classLink RX3 41 RX2, Cond.instantiable RX2 2, Cond.initialized RX2, Cond.fieldLink RX3 44 "CodeImages$Methods" "handlers" "LCodeImages$Handlers;", Cond.instanceMethod yX1_init, Cond.code yX1_init cX1_init 1 none, Cond.methodLink RX1 3 objectInit, Cond.fieldLink RX1 11 "CodeImages$Code" "starts" "[I", Cond.fieldLink RX1 17 "CodeImages$Code" "lengths" "[I", Cond.fieldLink RX1 20 "CodeImages$Code" "counts" "[I", Cond.fieldLink RX1 25 "CodeImages$Code" "begins" "[I", Cond.instanceMethod yX2_init, Cond.code yX2_init cX2_init 1 none, Cond.methodLink RX2 3 objectInit, Cond.fieldLink RX2 11 "CodeImages$Handlers" "starts" "[I", Cond.fieldLink RX2 17 "CodeImages$Handlers" "counts" "[I"]
def wsX7_init : List Cond := .code yX7_init cX7_init 1 none :: ((wsX7_init_r1 ++ (wsX7_init_r2 ++ wsX7_init_r3)) ++ wsX60 ++ wsX70 ++ wsX50 ++ wsX00 ++ wsX30 ++ wsX10 ++ wsX20)
def wsX7_feed : List Cond := .code yX7_feed cX7_feed 6 (some .int) :: ([.fieldLink RX7 10 "CodeImages" "tape" "LCodeImages$Tape;", .methodLink RX7 37 yX6_add, .instanceMethod yX6_add, .selects RX6 yX6_add yX6_add, .initialized RX6, .code yX6_add cX6_add 6 (some .boolean), .fieldLink RX6 13 "CodeImages$Tape" "used" "I", .fieldLink RX6 9 "CodeImages$Tape" "words" "[I", .methodLink RX7 41 yX6_length, .instanceMethod yX6_length, .selects RX6 yX6_length yX6_length, .code yX6_length cX6_length 1 (some .int)] ++ wsX70 ++ wsX60)
def wsX7_end_r1 : List Cond := [Cond.fieldLink RX7 19 "CodeImages" "image" "LCodeImages$Source;", Cond.fieldLink RX7 10 "CodeImages" "tape" "LCodeImages$Tape;", Cond.fieldLink RX7 26 "CodeImages" "classes" "LCodeImages$Classes;", Cond.fieldLink RX7 33 "CodeImages" "methods" "LCodeImages$Methods;", Cond.methodLink RX7 45 yX5_take, Cond.instanceMethod yX5_take, Cond.selects RX5 yX5_take yX5_take, Cond.initialized RX5, Cond.code yX5_take cX5_take 3 (some .boolean), Cond.fieldLink RX5 11 "CodeImages$Source" "words" "[I", Cond.fieldLink RX5 28 "CodeImages$Source" "length" "I", Cond.fieldLink RX5 31 "CodeImages$Source" "at" "I", Cond.fieldLink RX5 34 "CodeImages$Source" "stopped" "Z", Cond.methodLink RX5 17 yX6_length, Cond.instanceMethod yX6_length, Cond.selects RX6 yX6_length yX6_length, Cond.initialized RX6, Cond.code yX6_length cX6_length 1 (some .int), Cond.fieldLink RX6 13 "CodeImages$Tape" "used" "I", Cond.methodLink RX5 21 yX6_clear, Cond.instanceMethod yX6_clear, Cond.selects RX6 yX6_clear yX6_clear, Cond.code yX6_clear cX6_clear 1 none, Cond.methodLink RX5 24 yX6_exchange]
def wsX7_end_r2 : List Cond := [Cond.instanceMethod yX6_exchange, Cond.selects RX6 yX6_exchange yX6_exchange, Cond.code yX6_exchange cX6_exchange 3 (some (.array .int)), Cond.fieldLink RX6 9 "CodeImages$Tape" "words" "[I", Cond.methodLink RX7 49 yX0_read, Cond.instanceMethod yX0_read, Cond.selects RX0 yX0_read yX0_read, Cond.initialized RX0, Cond.code yX0_read cX0_read 3 none, Cond.methodLink RX0 40 Lib.Math.max.name, Cond.static Lib.Math.max.name, Cond.initialized "java/lang/Math", Cond.code Lib.Math.max.name Lib.Math.max.code 2 (some .int), Cond.fieldLink RX0 30 "CodeImages$Classes" "count" "I", Cond.fieldLink RX0 27 "CodeImages$Classes" "faults" "[I", Cond.methodLink RX0 34 yX5_number, Cond.instanceMethod yX5_number, Cond.selects RX5 yX5_number yX5_number, Cond.code yX5_number cX5_number 4 (some .int), Cond.methodLink RX5 38 yX5_byteAt, Cond.instanceMethod yX5_byteAt, Cond.selects RX5 yX5_byteAt yX5_byteAt, Cond.code yX5_byteAt cX5_byteAt 3 (some .int), Cond.methodLink RX0 45 yX5_stopped]
def wsX7_end_r3 : List Cond := [Cond.instanceMethod yX5_stopped, Cond.selects RX5 yX5_stopped yX5_stopped, Cond.code yX5_stopped cX5_stopped 1 (some .boolean), Cond.methodLink RX0 49 yX0_readClass, Cond.instanceMethod yX0_readClass, Cond.selects RX0 yX0_readClass yX0_readClass, Cond.code yX0_readClass cX0_readClass 4 none, Cond.fieldLink RX0 11 "CodeImages$Classes" "uppers" "[I", Cond.methodLink RX0 53 yX5_numberOrNothing, Cond.instanceMethod yX5_numberOrNothing, Cond.selects RX5 yX5_numberOrNothing yX5_numberOrNothing, Cond.code yX5_numberOrNothing cX5_numberOrNothing 2 (some .int), Cond.methodLink RX5 42 yX5_next, Cond.instanceMethod yX5_next, Cond.selects RX5 yX5_next yX5_next, Cond.code yX5_next cX5_next 1 (some .int), Cond.methodLink RX5 45 yX5_number, Cond.methodLink RX0 57 yX0_inherit, Cond.instanceMethod yX0_inherit, Cond.selects RX0 yX0_inherit yX0_inherit, Cond.code yX0_inherit cX0_inherit 5 none, Cond.fieldLink RX0 15 "CodeImages$Classes" "fieldCounts" "[I", Cond.fieldLink RX0 18 "CodeImages$Classes" "fieldTypes" "[I", Cond.fieldLink RX0 21 "CodeImages$Classes" "slotMethods" "[I"]
def wsX7_end_r4 : List Cond := [Cond.fieldLink RX0 24 "CodeImages$Classes" "slotPlaces" "[I", Cond.methodLink RX0 67 yX0_fields, Cond.instanceMethod yX0_fields, Cond.selects RX0 yX0_fields yX0_fields, Cond.code yX0_fields cX0_fields 2 (some .int), Cond.methodLink RX0 83 yX0_has, Cond.instanceMethod yX0_has, Cond.selects RX0 yX0_has yX0_has, Cond.code yX0_has cX0_has 2 (some .boolean), Cond.methodLink RX0 70 yX0_fieldType, Cond.instanceMethod yX0_fieldType, Cond.selects RX0 yX0_fieldType yX0_fieldType, Cond.code yX0_fieldType cX0_fieldType 3 (some .int), Cond.methodLink RX0 73 yX0_slotMethod, Cond.instanceMethod yX0_slotMethod, Cond.selects RX0 yX0_slotMethod yX0_slotMethod, Cond.code yX0_slotMethod cX0_slotMethod 3 (some .int), Cond.methodLink RX0 61 yX0_readFields, Cond.instanceMethod yX0_readFields, Cond.selects RX0 yX0_readFields yX0_readFields, Cond.code yX0_readFields cX0_readFields 6 none, Cond.methodLink RX0 76 yX5_type, Cond.instanceMethod yX5_type, Cond.selects RX5 yX5_type yX5_type]
def wsX7_end_r5 : List Cond := [Cond.code yX5_type cX5_type 2 (some .int), Cond.methodLink RX0 64 yX0_readSlots, Cond.instanceMethod yX0_readSlots, Cond.selects RX0 yX0_readSlots yX0_readSlots, Cond.code yX0_readSlots cX0_readSlots 9 none, Cond.methodLink RX0 79 yX5_place, Cond.instanceMethod yX5_place, Cond.selects RX5 yX5_place yX5_place, Cond.code yX5_place cX5_place 1 (some .int), Cond.methodLink RX7 53 yX3_read, Cond.instanceMethod yX3_read, Cond.selects RX3 yX3_read yX3_read, Cond.initialized RX3, Cond.code yX3_read cX3_read 4 none, Cond.methodLink RX3 65 Lib.Math.max.name, Cond.fieldLink RX3 48 "CodeImages$Methods" "count" "I", Cond.fieldLink RX3 37 "CodeImages$Methods" "code" "LCodeImages$Code;", Cond.fieldLink RX3 28 "CodeImages$Methods" "locals" "[I", Cond.fieldLink RX3 44 "CodeImages$Methods" "handlers" "LCodeImages$Handlers;", Cond.methodLink RX3 58 yX3_clear, Cond.instanceMethod yX3_clear, Cond.selects RX3 yX3_clear yX3_clear, Cond.code yX3_clear cX3_clear 1 none, Cond.fieldLink RX3 9 "CodeImages$Methods" "first" "I"]
def wsX7_end_r6 : List Cond := [Cond.methodLink RX3 51 yX1_clear, Cond.instanceMethod yX1_clear, Cond.selects RX1 yX1_clear yX1_clear, Cond.initialized RX1, Cond.code yX1_clear cX1_clear 1 none, Cond.fieldLink RX1 28 "CodeImages$Code" "total" "I", Cond.fieldLink RX1 25 "CodeImages$Code" "begins" "[I", Cond.methodLink RX1 32 yJ7_fill_53178, Cond.static yJ7_fill_53178, Cond.initialized RJ7, Cond.code yJ7_fill_53178 cJ7_fill_53178 4 none, Cond.methodLink RX3 59 yX5_number, Cond.methodLink RX3 70 yX5_stopped, Cond.methodLink RX3 74 yX0_size, Cond.instanceMethod yX0_size, Cond.selects RX0 yX0_size yX0_size, Cond.code yX0_size cX0_size 1 (some .int), Cond.methodLink RX3 79 yX3_readHead, Cond.instanceMethod yX3_readHead, Cond.selects RX3 yX3_readHead yX3_readHead, Cond.code yX3_readHead cX3_readHead 6 none, Cond.fieldLink RX3 15 "CodeImages$Methods" "owners" "[I", Cond.fieldLink RX3 25 "CodeImages$Methods" "gives" "[I", Cond.fieldLink RX3 19 "CodeImages$Methods" "parameterCounts" "[I"]
def wsX7_end_r7 : List Cond := [Cond.fieldLink RX3 31 "CodeImages$Methods" "stacks" "[I", Cond.methodLink RX3 93 yX5_numberOrNothing, Cond.methodLink RX3 97 yX3_readParameters, Cond.instanceMethod yX3_readParameters, Cond.selects RX3 yX3_readParameters yX3_readParameters, Cond.code yX3_readParameters cX3_readParameters 7 none, Cond.fieldLink RX3 22 "CodeImages$Methods" "parameterTypes" "[I", Cond.methodLink RX3 103 yX5_type, Cond.methodLink RX3 100 yX5_typeOrNothing, Cond.instanceMethod yX5_typeOrNothing, Cond.selects RX5 yX5_typeOrNothing yX5_typeOrNothing, Cond.code yX5_typeOrNothing cX5_typeOrNothing 2 (some .int), Cond.methodLink RX5 49 yX5_type, Cond.methodLink RX3 83 yX1_read, Cond.instanceMethod yX1_read, Cond.selects RX1 yX1_read yX1_read, Cond.code yX1_read cX1_read 9 none, Cond.methodLink RX1 44 Lib.Math.max.name, Cond.fieldLink RX1 11 "CodeImages$Code" "starts" "[I", Cond.fieldLink RX1 17 "CodeImages$Code" "lengths" "[I", Cond.fieldLink RX1 20 "CodeImages$Code" "counts" "[I", Cond.methodLink RX1 38 yX5_pair, Cond.instanceMethod yX5_pair, Cond.selects RX5 yX5_pair yX5_pair]
def wsX7_end_r8 : List Cond := [Cond.code yX5_pair cX5_pair 5 (some .int), Cond.methodLink RX1 49 yX5_place, Cond.methodLink RX1 53 yX5_stopped, Cond.methodLink RX1 57 yX1_readInstruction, Cond.instanceMethod yX1_readInstruction, Cond.selects RX1 yX1_readInstruction yX1_readInstruction, Cond.code yX1_readInstruction cX1_readInstruction 9 none, Cond.methodLink RX1 63 yX5_number, Cond.methodLink RX1 66 yX4_length, Cond.static yX4_length, Cond.initialized RX4, Cond.code yX4_length cX4_length 1 (some .int), Cond.methodLink RX4 19 yX4_first, Cond.static yX4_first, Cond.code yX4_first cX4_first 1 (some .int), Cond.fieldLink RX4 7 "CodeImages$Operands" "FIRSTS" "[I", Cond.methodLink RX4 23 yX4_width, Cond.static yX4_width, Cond.code yX4_width cX4_width 1 (some .int), Cond.fieldLink RX4 16 "CodeImages$Operands" "WIDTHS" "[I", Cond.methodLink RX4 26 yX4_second, Cond.static yX4_second, Cond.code yX4_second cX4_second 1 (some .int), Cond.fieldLink RX4 13 "CodeImages$Operands" "SECONDS" "[I"]
def wsX7_end_r9 : List Cond := [Cond.methodLink RX1 70 yX5_stopAt, Cond.instanceMethod yX5_stopAt, Cond.selects RX5 yX5_stopAt yX5_stopAt, Cond.code yX5_stopAt cX5_stopAt 2 none, Cond.methodLink RX1 74 yX1_markBegin, Cond.instanceMethod yX1_markBegin, Cond.selects RX1 yX1_markBegin yX1_markBegin, Cond.code yX1_markBegin cX1_markBegin 3 none, Cond.methodLink RX1 77 yX4_first, Cond.methodLink RX1 80 yX1_readOperand, Cond.static yX1_readOperand, Cond.code yX1_readOperand cX1_readOperand 4 (some .int), Cond.methodLink RX1 96 yX0_size, Cond.methodLink RX1 99 yX4_width, Cond.methodLink RX1 102 yX5_skip, Cond.instanceMethod yX5_skip, Cond.selects RX5 yX5_skip yX5_skip, Cond.code yX5_skip cX5_skip 2 none, Cond.methodLink RX5 52 yX5_stopAt, Cond.methodLink RX1 84 yX4_second, Cond.methodLink RX1 87 yX0_fields, Cond.methodLink RX1 92 yX1_readSlot, Cond.static yX1_readSlot, Cond.code yX1_readSlot cX1_readSlot 4 none]
def wsX7_end_r10 : List Cond := [Cond.methodLink RX1 105 yX5_next, Cond.methodLink RX1 108 yX0_slotMethod, Cond.methodLink RX3 87 yX2_read, Cond.instanceMethod yX2_read, Cond.selects RX2 yX2_read yX2_read, Cond.initialized RX2, Cond.code yX2_read cX2_read 6 none, Cond.methodLink RX2 26 Lib.Math.max.name, Cond.fieldLink RX2 11 "CodeImages$Handlers" "starts" "[I", Cond.fieldLink RX2 17 "CodeImages$Handlers" "counts" "[I", Cond.methodLink RX2 20 yX5_number, Cond.methodLink RX2 31 yX5_place, Cond.methodLink RX2 35 yX5_skip, Cond.methodLink RX3 89 yX3_readFirst, Cond.instanceMethod yX3_readFirst, Cond.selects RX3 yX3_readFirst yX3_readFirst, Cond.code yX3_readFirst cX3_readFirst 3 none, Cond.methodLink RX3 106 yX5_next, Cond.methodLink RX3 109 yX3_has, Cond.instanceMethod yX3_has, Cond.selects RX3 yX3_has yX3_has, Cond.code yX3_has cX3_has 2 (some .boolean), Cond.methodLink RX3 113 yX5_place, Cond.methodLink RX3 116 yX5_stopAt]
def wsX7_end_r11 : List Cond := [Cond.methodLink RX7 56 yX5_close, Cond.instanceMethod yX5_close, Cond.selects RX5 yX5_close yX5_close, Cond.code yX5_close cX5_close 1 none, Cond.methodLink RX7 59 yX5_stopped, Cond.methodLink RX7 63 yX5_place, Cond.methodLink RX7 66 yX3_misfit, Cond.instanceMethod yX3_misfit, Cond.selects RX3 yX3_misfit yX3_misfit, Cond.code yX3_misfit cX3_misfit 6 (some .int), Cond.methodLink RX3 138 yX3_misfitSlot, Cond.instanceMethod yX3_misfitSlot, Cond.selects RX3 yX3_misfitSlot yX3_misfitSlot, Cond.code yX3_misfitSlot cX3_misfitSlot 5 (some .int), Cond.methodLink RX3 148 yX0_slotPlace, Cond.instanceMethod yX0_slotPlace, Cond.selects RX0 yX0_slotPlace yX0_slotPlace, Cond.code yX0_slotPlace cX0_slotPlace 3 (some .int), Cond.methodLink RX3 151 yX3_fitsSlot, Cond.instanceMethod yX3_fitsSlot, Cond.selects RX3 yX3_fitsSlot yX3_fitsSlot, Cond.code yX3_fitsSlot cX3_fitsSlot 6 (some .boolean), Cond.methodLink RX3 155 yX0_slotMethod, Cond.methodLink RX3 158 yX0_upper]
def wsX7_end_r12 : List Cond := [Cond.instanceMethod yX0_upper, Cond.selects RX0 yX0_upper yX0_upper, Cond.code yX0_upper cX0_upper 2 (some .int), Cond.methodLink RX3 161 yX3_standsFor, Cond.instanceMethod yX3_standsFor, Cond.selects RX3 yX3_standsFor yX3_standsFor, Cond.code yX3_standsFor cX3_standsFor 4 (some .boolean), Cond.methodLink RX3 120 yX3_parameterType, Cond.instanceMethod yX3_parameterType, Cond.selects RX3 yX3_parameterType yX3_parameterType, Cond.code yX3_parameterType cX3_parameterType 3 (some .int), Cond.methodLink RX3 142 yX1_misfit, Cond.instanceMethod yX1_misfit, Cond.selects RX1 yX1_misfit yX1_misfit, Cond.code yX1_misfit cX1_misfit 10 (some .int), Cond.methodLink RX1 112 yX1_size, Cond.instanceMethod yX1_size, Cond.selects RX1 yX1_size yX1_size, Cond.code yX1_size cX1_size 2 (some .int), Cond.methodLink RX1 114 yX5_byteAt, Cond.methodLink RX1 121 yX5_valueAt, Cond.instanceMethod yX5_valueAt, Cond.selects RX5 yX5_valueAt yX5_valueAt, Cond.code yX5_valueAt cX5_valueAt 5 (some .int)]
def wsX7_end_r13 : List Cond := [Cond.methodLink RX1 117 yX1_beginsAt, Cond.instanceMethod yX1_beginsAt, Cond.selects RX1 yX1_beginsAt yX1_beginsAt, Cond.code yX1_beginsAt cX1_beginsAt 5 (some .boolean), Cond.methodLink RX1 111 yX1_length, Cond.instanceMethod yX1_length, Cond.selects RX1 yX1_length yX1_length, Cond.code yX1_length cX1_length 2 (some .int), Cond.methodLink RX3 145 yX2_misfit, Cond.instanceMethod yX2_misfit, Cond.selects RX2 yX2_misfit yX2_misfit, Cond.code yX2_misfit cX2_misfit 9 (some .int), Cond.methodLink RX2 39 yX2_size, Cond.instanceMethod yX2_size, Cond.selects RX2 yX2_size yX2_size, Cond.code yX2_size cX2_size 2 (some .int), Cond.methodLink RX2 43 yX5_valueAt, Cond.methodLink RX2 49 yX1_beginsAt, Cond.methodLink RX2 55 yX1_length, Cond.methodLink RX7 70 yX3_instructions, Cond.instanceMethod yX3_instructions, Cond.selects RX3 yX3_instructions yX3_instructions, Cond.code yX3_instructions cX3_instructions 1 (some .int), Cond.methodLink RX3 54 yX1_total]
def wsX7_end_r14 : List Cond := [Cond.instanceMethod yX1_total, Cond.selects RX1 yX1_total yX1_total, Cond.code yX1_total cX1_total 1 (some .int), Cond.methodLink RX7 73 yX0_clear, Cond.instanceMethod yX0_clear, Cond.selects RX0 yX0_clear yX0_clear, Cond.code yX0_clear cX0_clear 1 none, Cond.methodLink RX7 76 yX3_clear]
def wsX7_end : List Cond := .code yX7_end cX7_end 3 (some .int) :: ((wsX7_end_r1 ++ (wsX7_end_r2 ++ (wsX7_end_r3 ++ (wsX7_end_r4 ++ (wsX7_end_r5 ++ (wsX7_end_r6 ++ (wsX7_end_r7 ++ (wsX7_end_r8 ++ (wsX7_end_r9 ++ (wsX7_end_r10 ++ (wsX7_end_r11 ++ (wsX7_end_r12 ++ (wsX7_end_r13 ++ wsX7_end_r14))))))))))))) ++ wsX70 ++ wsX50 ++ wsX60 ++ wsX00 ++ wsX30 ++ wsX10 ++ wsX20)
def wsX7_count_r1 : List Cond := [Cond.fieldLink RX7 26 "CodeImages" "classes" "LCodeImages$Classes;", Cond.fieldLink RX7 33 "CodeImages" "methods" "LCodeImages$Methods;", Cond.methodLink RX7 77 yX0_size, Cond.instanceMethod yX0_size, Cond.selects RX0 yX0_size yX0_size, Cond.initialized RX0, Cond.code yX0_size cX0_size 1 (some .int), Cond.fieldLink RX0 30 "CodeImages$Classes" "count" "I", Cond.methodLink RX7 80 yX3_size, Cond.instanceMethod yX3_size, Cond.selects RX3 yX3_size yX3_size, Cond.initialized RX3, Cond.code yX3_size cX3_size 1 (some .int), Cond.fieldLink RX3 48 "CodeImages$Methods" "count" "I", Cond.methodLink RX7 70 yX3_instructions, Cond.instanceMethod yX3_instructions, Cond.selects RX3 yX3_instructions yX3_instructions, Cond.code yX3_instructions cX3_instructions 1 (some .int), Cond.fieldLink RX3 37 "CodeImages$Methods" "code" "LCodeImages$Code;", Cond.methodLink RX3 54 yX1_total, Cond.instanceMethod yX1_total, Cond.selects RX1 yX1_total yX1_total, Cond.initialized RX1, Cond.code yX1_total cX1_total 1 (some .int)]
def wsX7_count_r2 : List Cond := [Cond.fieldLink RX1 28 "CodeImages$Code" "total" "I", Cond.methodLink RX7 81 yX3_first, Cond.instanceMethod yX3_first, Cond.selects RX3 yX3_first yX3_first, Cond.code yX3_first cX3_first 1 (some .int), Cond.fieldLink RX3 9 "CodeImages$Methods" "first" "I"]
def wsX7_count : List Cond := .code yX7_count cX7_count 2 (some .int) :: ((wsX7_count_r1 ++ wsX7_count_r2) ++ wsX70 ++ wsX00 ++ wsX30 ++ wsX10)
def wsX7_classOf_r1 : List Cond := [Cond.fieldLink RX7 26 "CodeImages" "classes" "LCodeImages$Classes;", Cond.methodLink RX7 84 yX0_upper, Cond.instanceMethod yX0_upper, Cond.selects RX0 yX0_upper yX0_upper, Cond.initialized RX0, Cond.code yX0_upper cX0_upper 2 (some .int), Cond.fieldLink RX0 11 "CodeImages$Classes" "uppers" "[I", Cond.methodLink RX0 83 yX0_has, Cond.instanceMethod yX0_has, Cond.selects RX0 yX0_has yX0_has, Cond.code yX0_has cX0_has 2 (some .boolean), Cond.fieldLink RX0 30 "CodeImages$Classes" "count" "I", Cond.methodLink RX7 88 yX0_fields, Cond.instanceMethod yX0_fields, Cond.selects RX0 yX0_fields yX0_fields, Cond.code yX0_fields cX0_fields 2 (some .int), Cond.fieldLink RX0 15 "CodeImages$Classes" "fieldCounts" "[I", Cond.methodLink RX7 91 yX0_fieldType, Cond.instanceMethod yX0_fieldType, Cond.selects RX0 yX0_fieldType yX0_fieldType, Cond.code yX0_fieldType cX0_fieldType 3 (some .int), Cond.fieldLink RX0 18 "CodeImages$Classes" "fieldTypes" "[I", Cond.methodLink RX0 67 yX0_fields, Cond.methodLink RX7 95 yX0_slotMethod]
def wsX7_classOf_r2 : List Cond := [Cond.instanceMethod yX0_slotMethod, Cond.selects RX0 yX0_slotMethod yX0_slotMethod, Cond.code yX0_slotMethod cX0_slotMethod 3 (some .int), Cond.fieldLink RX0 21 "CodeImages$Classes" "slotMethods" "[I"]
def wsX7_classOf : List Cond := .code yX7_classOf cX7_classOf 4 (some .int) :: ((wsX7_classOf_r1 ++ wsX7_classOf_r2) ++ wsX70 ++ wsX00)
def wsX7_isA : List Cond := .code yX7_isA cX7_isA 3 (some .boolean) :: ([.fieldLink RX7 26 "CodeImages" "classes" "LCodeImages$Classes;", .methodLink RX7 98 yX0_reaches, .instanceMethod yX0_reaches, .selects RX0 yX0_reaches yX0_reaches, .initialized RX0, .code yX0_reaches cX0_reaches 5 (some .boolean), .fieldLink RX0 11 "CodeImages$Classes" "uppers" "[I", .methodLink RX0 83 yX0_has, .instanceMethod yX0_has, .selects RX0 yX0_has yX0_has, .code yX0_has cX0_has 2 (some .boolean), .fieldLink RX0 30 "CodeImages$Classes" "count" "I"] ++ wsX70 ++ wsX00)
def wsX7_method_r1 : List Cond := [Cond.fieldLink RX7 33 "CodeImages" "methods" "LCodeImages$Methods;", Cond.fieldLink RX7 19 "CodeImages" "image" "LCodeImages$Source;", Cond.methodLink RX7 102 yX3_fact, Cond.instanceMethod yX3_fact, Cond.selects RX3 yX3_fact yX3_fact, Cond.initialized RX3, Cond.code yX3_fact cX3_fact 5 (some .int), Cond.fieldLink RX3 15 "CodeImages$Methods" "owners" "[I", Cond.fieldLink RX3 19 "CodeImages$Methods" "parameterCounts" "[I", Cond.fieldLink RX3 25 "CodeImages$Methods" "gives" "[I", Cond.fieldLink RX3 28 "CodeImages$Methods" "locals" "[I", Cond.fieldLink RX3 31 "CodeImages$Methods" "stacks" "[I", Cond.fieldLink RX3 37 "CodeImages$Methods" "code" "LCodeImages$Code;", Cond.fieldLink RX3 44 "CodeImages$Methods" "handlers" "LCodeImages$Handlers;", Cond.methodLink RX3 109 yX3_has, Cond.instanceMethod yX3_has, Cond.selects RX3 yX3_has yX3_has, Cond.code yX3_has cX3_has 2 (some .boolean), Cond.fieldLink RX3 48 "CodeImages$Methods" "count" "I", Cond.methodLink RX3 120 yX3_parameterType, Cond.instanceMethod yX3_parameterType, Cond.selects RX3 yX3_parameterType yX3_parameterType, Cond.code yX3_parameterType cX3_parameterType 3 (some .int), Cond.fieldLink RX3 22 "CodeImages$Methods" "parameterTypes" "[I"]
def wsX7_method_r2 : List Cond := [Cond.methodLink RX3 123 yX1_length, Cond.instanceMethod yX1_length, Cond.selects RX1 yX1_length yX1_length, Cond.initialized RX1, Cond.code yX1_length cX1_length 2 (some .int), Cond.fieldLink RX1 17 "CodeImages$Code" "lengths" "[I", Cond.methodLink RX3 126 yX1_size, Cond.instanceMethod yX1_size, Cond.selects RX1 yX1_size yX1_size, Cond.code yX1_size cX1_size 2 (some .int), Cond.fieldLink RX1 20 "CodeImages$Code" "counts" "[I", Cond.methodLink RX3 128 yX1_placeOf, Cond.instanceMethod yX1_placeOf, Cond.selects RX1 yX1_placeOf yX1_placeOf, Cond.code yX1_placeOf cX1_placeOf 6 (some .int), Cond.fieldLink RX1 11 "CodeImages$Code" "starts" "[I", Cond.methodLink RX1 112 yX1_size, Cond.methodLink RX1 114 yX5_byteAt, Cond.instanceMethod yX5_byteAt, Cond.selects RX5 yX5_byteAt yX5_byteAt, Cond.initialized RX5, Cond.code yX5_byteAt cX5_byteAt 3 (some .int), Cond.fieldLink RX5 28 "CodeImages$Source" "length" "I", Cond.fieldLink RX5 11 "CodeImages$Source" "words" "[I"]
def wsX7_method_r3 : List Cond := [Cond.methodLink RX1 66 yX4_length, Cond.static yX4_length, Cond.initialized RX4, Cond.code yX4_length cX4_length 1 (some .int), Cond.methodLink RX4 19 yX4_first, Cond.static yX4_first, Cond.code yX4_first cX4_first 1 (some .int), Cond.fieldLink RX4 7 "CodeImages$Operands" "FIRSTS" "[I", Cond.methodLink RX4 23 yX4_width, Cond.static yX4_width, Cond.code yX4_width cX4_width 1 (some .int), Cond.fieldLink RX4 16 "CodeImages$Operands" "WIDTHS" "[I", Cond.methodLink RX4 26 yX4_second, Cond.static yX4_second, Cond.code yX4_second cX4_second 1 (some .int), Cond.fieldLink RX4 13 "CodeImages$Operands" "SECONDS" "[I", Cond.methodLink RX3 132 yX2_size, Cond.instanceMethod yX2_size, Cond.selects RX2 yX2_size yX2_size, Cond.initialized RX2, Cond.code yX2_size cX2_size 2 (some .int), Cond.fieldLink RX2 17 "CodeImages$Handlers" "counts" "[I"]
def wsX7_method : List Cond := .code yX7_method cX7_method 4 (some .int) :: ((wsX7_method_r1 ++ (wsX7_method_r2 ++ wsX7_method_r3)) ++ wsX70 ++ wsX30 ++ wsX10 ++ wsX50 ++ wsX20)
def wsX7_handler_r1 : List Cond := [Cond.fieldLink RX7 33 "CodeImages" "methods" "LCodeImages$Methods;", Cond.fieldLink RX7 19 "CodeImages" "image" "LCodeImages$Source;", Cond.methodLink RX7 106 yX3_handlerFact, Cond.instanceMethod yX3_handlerFact, Cond.selects RX3 yX3_handlerFact yX3_handlerFact, Cond.initialized RX3, Cond.code yX3_handlerFact cX3_handlerFact 5 (some .int), Cond.fieldLink RX3 44 "CodeImages$Methods" "handlers" "LCodeImages$Handlers;", Cond.methodLink RX3 109 yX3_has, Cond.instanceMethod yX3_has, Cond.selects RX3 yX3_has yX3_has, Cond.code yX3_has cX3_has 2 (some .boolean), Cond.fieldLink RX3 48 "CodeImages$Methods" "count" "I", Cond.methodLink RX3 133 yX2_fact, Cond.instanceMethod yX2_fact, Cond.selects RX2 yX2_fact yX2_fact, Cond.initialized RX2, Cond.code yX2_fact cX2_fact 6 (some .int), Cond.fieldLink RX2 11 "CodeImages$Handlers" "starts" "[I", Cond.methodLink RX2 39 yX2_size, Cond.instanceMethod yX2_size, Cond.selects RX2 yX2_size yX2_size, Cond.code yX2_size cX2_size 2 (some .int), Cond.fieldLink RX2 17 "CodeImages$Handlers" "counts" "[I"]
def wsX7_handler_r2 : List Cond := [Cond.methodLink RX2 43 yX5_valueAt, Cond.instanceMethod yX5_valueAt, Cond.selects RX5 yX5_valueAt yX5_valueAt, Cond.initialized RX5, Cond.code yX5_valueAt cX5_valueAt 5 (some .int), Cond.methodLink RX5 38 yX5_byteAt, Cond.instanceMethod yX5_byteAt, Cond.selects RX5 yX5_byteAt yX5_byteAt, Cond.code yX5_byteAt cX5_byteAt 3 (some .int), Cond.fieldLink RX5 28 "CodeImages$Source" "length" "I", Cond.fieldLink RX5 11 "CodeImages$Source" "words" "[I", Cond.methodLink RX2 46 yX5_byteAt]
def wsX7_handler : List Cond := .code yX7_handler cX7_handler 4 (some .int) :: ((wsX7_handler_r1 ++ wsX7_handler_r2) ++ wsX70 ++ wsX30 ++ wsX20 ++ wsX50)
def wsX7_instruction_r1 : List Cond := [Cond.fieldLink RX7 33 "CodeImages" "methods" "LCodeImages$Methods;", Cond.fieldLink RX7 19 "CodeImages" "image" "LCodeImages$Source;", Cond.methodLink RX7 109 yX3_instructionFact, Cond.instanceMethod yX3_instructionFact, Cond.selects RX3 yX3_instructionFact yX3_instructionFact, Cond.initialized RX3, Cond.code yX3_instructionFact cX3_instructionFact 5 (some .int), Cond.fieldLink RX3 37 "CodeImages$Methods" "code" "LCodeImages$Code;", Cond.methodLink RX3 109 yX3_has, Cond.instanceMethod yX3_has, Cond.selects RX3 yX3_has yX3_has, Cond.code yX3_has cX3_has 2 (some .boolean), Cond.fieldLink RX3 48 "CodeImages$Methods" "count" "I", Cond.methodLink RX3 137 yX1_fact, Cond.instanceMethod yX1_fact, Cond.selects RX1 yX1_fact yX1_fact, Cond.initialized RX1, Cond.code yX1_fact cX1_fact 8 (some .int), Cond.fieldLink RX1 11 "CodeImages$Code" "starts" "[I", Cond.methodLink RX1 117 yX1_beginsAt, Cond.instanceMethod yX1_beginsAt, Cond.selects RX1 yX1_beginsAt yX1_beginsAt, Cond.code yX1_beginsAt cX1_beginsAt 5 (some .boolean), Cond.fieldLink RX1 25 "CodeImages$Code" "begins" "[I"]
def wsX7_instruction_r2 : List Cond := [Cond.methodLink RX1 111 yX1_length, Cond.instanceMethod yX1_length, Cond.selects RX1 yX1_length yX1_length, Cond.code yX1_length cX1_length 2 (some .int), Cond.fieldLink RX1 17 "CodeImages$Code" "lengths" "[I", Cond.methodLink RX1 114 yX5_byteAt, Cond.instanceMethod yX5_byteAt, Cond.selects RX5 yX5_byteAt yX5_byteAt, Cond.initialized RX5, Cond.code yX5_byteAt cX5_byteAt 3 (some .int), Cond.fieldLink RX5 28 "CodeImages$Source" "length" "I", Cond.fieldLink RX5 11 "CodeImages$Source" "words" "[I", Cond.methodLink RX1 77 yX4_first, Cond.static yX4_first, Cond.initialized RX4, Cond.code yX4_first cX4_first 1 (some .int), Cond.fieldLink RX4 7 "CodeImages$Operands" "FIRSTS" "[I", Cond.methodLink RX1 99 yX4_width, Cond.static yX4_width, Cond.code yX4_width cX4_width 1 (some .int), Cond.fieldLink RX4 16 "CodeImages$Operands" "WIDTHS" "[I", Cond.methodLink RX1 121 yX5_valueAt, Cond.instanceMethod yX5_valueAt, Cond.selects RX5 yX5_valueAt yX5_valueAt]
def wsX7_instruction_r3 : List Cond := [Cond.code yX5_valueAt cX5_valueAt 5 (some .int), Cond.methodLink RX5 38 yX5_byteAt, Cond.methodLink RX1 84 yX4_second, Cond.static yX4_second, Cond.code yX4_second cX4_second 1 (some .int), Cond.fieldLink RX4 13 "CodeImages$Operands" "SECONDS" "[I", Cond.methodLink RX1 66 yX4_length, Cond.static yX4_length, Cond.code yX4_length cX4_length 1 (some .int), Cond.methodLink RX4 19 yX4_first, Cond.methodLink RX4 23 yX4_width, Cond.methodLink RX4 26 yX4_second]
def wsX7_instruction : List Cond := .code yX7_instruction cX7_instruction 4 (some .int) :: ((wsX7_instruction_r1 ++ (wsX7_instruction_r2 ++ wsX7_instruction_r3)) ++ wsX70 ++ wsX30 ++ wsX10 ++ wsX50)
def wsX7_thrown : List Cond := .code yX7_thrown cX7_thrown 2 (some .int) :: ([.fieldLink RX7 26 "CodeImages" "classes" "LCodeImages$Classes;", .methodLink RX7 112 yX0_fault, .instanceMethod yX0_fault, .selects RX0 yX0_fault yX0_fault, .initialized RX0, .code yX0_fault cX0_fault 2 (some .int), .fieldLink RX0 30 "CodeImages$Classes" "count" "I", .fieldLink RX0 27 "CodeImages$Classes" "faults" "[I"] ++ wsX70 ++ wsX00)
def wsX8_init : List Cond := .code yX8_init cX8_init 1 none :: ([.methodLink RX8 1 objectInit, .instanceMethod objectInit, .code objectInit ⟨#[0xb1]⟩ 1 none, .arrayClass .int, .fieldLink RX8 9 "CodeImagesModel" "tape" "[I", .fieldLink RX8 13 "CodeImagesModel" "image" "[I", .arrayClass .boolean, .fieldLink RX8 16 "CodeImagesModel" "begins" "[Z", .fieldLink RX8 20 "CodeImagesModel" "uppers" "[I", .fieldLink RX8 23 "CodeImagesModel" "fieldCounts" "[I", .fieldLink RX8 26 "CodeImagesModel" "fieldTypes" "[I", .fieldLink RX8 29 "CodeImagesModel" "slots" "[I", .fieldLink RX8 32 "CodeImagesModel" "slotPlaces" "[I", .fieldLink RX8 35 "CodeImagesModel" "throwns" "[I", .fieldLink RX8 38 "CodeImagesModel" "owners" "[I", .fieldLink RX8 41 "CodeImagesModel" "parameterCounts" "[I", .fieldLink RX8 44 "CodeImagesModel" "parameterTypes" "[I", .fieldLink RX8 47 "CodeImagesModel" "gives" "[I", .fieldLink RX8 50 "CodeImagesModel" "locals" "[I", .fieldLink RX8 53 "CodeImagesModel" "stacks" "[I", .fieldLink RX8 56 "CodeImagesModel" "codeAt" "[I", .fieldLink RX8 59 "CodeImagesModel" "codeSizes" "[I", .fieldLink RX8 62 "CodeImagesModel" "handlerCounts" "[I", .fieldLink RX8 65 "CodeImagesModel" "handlerAt" "[I"] ++ wsX80)
def wsX8_feed : List Cond := .code yX8_feed cX8_feed 8 (some .int) :: ([.fieldLink RX8 68 "CodeImagesModel" "taped" "I", .fieldLink RX8 9 "CodeImagesModel" "tape" "[I"] ++ wsX80)
def wsX8_bad : List Cond := .code yX8_bad cX8_bad 2 (some .boolean) :: ([.fieldLink RX8 72 "CodeImagesModel" "wrong" "I"] ++ wsX80)
def wsX8_here : List Cond := .code yX8_here cX8_here 1 (some .int) :: ([.fieldLink RX8 75 "CodeImagesModel" "place" "I", .fieldLink RX8 78 "CodeImagesModel" "size" "I", .fieldLink RX8 13 "CodeImagesModel" "image" "[I"] ++ wsX80)
def wsX8_over : List Cond := .code yX8_over cX8_over 3 (some .boolean) :: ([.fieldLink RX8 75 "CodeImagesModel" "place" "I", .methodLink RX8 81 yX8_here, .instanceMethod yX8_here, .selects RX8 yX8_here yX8_here, .initialized RX8, .code yX8_here cX8_here 1 (some .int), .fieldLink RX8 78 "CodeImagesModel" "size" "I", .fieldLink RX8 13 "CodeImagesModel" "image" "[I", .methodLink RX8 85 yX8_bad, .instanceMethod yX8_bad, .selects RX8 yX8_bad yX8_bad, .code yX8_bad cX8_bad 2 (some .boolean), .fieldLink RX8 72 "CodeImagesModel" "wrong" "I"] ++ wsX80)
def wsX8_last : List Cond := .code yX8_last cX8_last 1 (some .int) :: ([.fieldLink RX8 13 "CodeImagesModel" "image" "[I", .fieldLink RX8 75 "CodeImagesModel" "place" "I"] ++ wsX80)
def wsX8_two : List Cond := .code yX8_two cX8_two 2 (some .int) :: ([.fieldLink RX8 13 "CodeImagesModel" "image" "[I"] ++ wsX80)
def wsX8_overClass : List Cond := .code yX8_overClass cX8_overClass 1 (some .boolean) :: ([.fieldLink RX8 89 "CodeImagesModel" "classes" "I", .methodLink RX8 92 yX8_over, .instanceMethod yX8_over, .selects RX8 yX8_over yX8_over, .initialized RX8, .code yX8_over cX8_over 3 (some .boolean), .fieldLink RX8 75 "CodeImagesModel" "place" "I", .methodLink RX8 81 yX8_here, .instanceMethod yX8_here, .selects RX8 yX8_here yX8_here, .code yX8_here cX8_here 1 (some .int), .fieldLink RX8 78 "CodeImagesModel" "size" "I", .fieldLink RX8 13 "CodeImagesModel" "image" "[I", .methodLink RX8 85 yX8_bad, .instanceMethod yX8_bad, .selects RX8 yX8_bad yX8_bad, .code yX8_bad cX8_bad 2 (some .boolean), .fieldLink RX8 72 "CodeImagesModel" "wrong" "I"] ++ wsX80)
def wsX8_overType : List Cond := .code yX8_overType cX8_overType 4 (some .boolean) :: ([.fieldLink RX8 89 "CodeImagesModel" "classes" "I", .fieldLink RX8 75 "CodeImagesModel" "place" "I", .methodLink RX8 81 yX8_here, .instanceMethod yX8_here, .selects RX8 yX8_here yX8_here, .initialized RX8, .code yX8_here cX8_here 1 (some .int), .fieldLink RX8 78 "CodeImagesModel" "size" "I", .fieldLink RX8 13 "CodeImagesModel" "image" "[I", .methodLink RX8 85 yX8_bad, .instanceMethod yX8_bad, .selects RX8 yX8_bad yX8_bad, .code yX8_bad cX8_bad 2 (some .boolean), .fieldLink RX8 72 "CodeImagesModel" "wrong" "I"] ++ wsX80)
def wsX8_readClass_r1 : List Cond := [Cond.fieldLink RX8 75 "CodeImagesModel" "place" "I", Cond.fieldLink RX8 20 "CodeImagesModel" "uppers" "[I", Cond.fieldLink RX8 23 "CodeImagesModel" "fieldCounts" "[I", Cond.fieldLink RX8 26 "CodeImagesModel" "fieldTypes" "[I", Cond.fieldLink RX8 29 "CodeImagesModel" "slots" "[I", Cond.fieldLink RX8 32 "CodeImagesModel" "slotPlaces" "[I", Cond.methodLink RX8 81 yX8_here, Cond.instanceMethod yX8_here, Cond.selects RX8 yX8_here yX8_here, Cond.initialized RX8, Cond.code yX8_here cX8_here 1 (some .int), Cond.fieldLink RX8 78 "CodeImagesModel" "size" "I", Cond.fieldLink RX8 13 "CodeImagesModel" "image" "[I", Cond.methodLink RX8 85 yX8_bad, Cond.instanceMethod yX8_bad, Cond.selects RX8 yX8_bad yX8_bad, Cond.code yX8_bad cX8_bad 2 (some .boolean), Cond.fieldLink RX8 72 "CodeImagesModel" "wrong" "I", Cond.methodLink RX8 92 yX8_over, Cond.instanceMethod yX8_over, Cond.selects RX8 yX8_over yX8_over, Cond.code yX8_over cX8_over 3 (some .boolean), Cond.methodLink RX8 96 yX8_last, Cond.instanceMethod yX8_last]
def wsX8_readClass_r2 : List Cond := [Cond.selects RX8 yX8_last yX8_last, Cond.code yX8_last cX8_last 1 (some .int), Cond.methodLink RX8 99 yX8_overType, Cond.instanceMethod yX8_overType, Cond.selects RX8 yX8_overType yX8_overType, Cond.code yX8_overType cX8_overType 4 (some .boolean), Cond.fieldLink RX8 89 "CodeImagesModel" "classes" "I"]
def wsX8_readClass : List Cond := .code yX8_readClass cX8_readClass 8 (some .boolean) :: ((wsX8_readClass_r1 ++ wsX8_readClass_r2) ++ wsX80)
def wsX8_wide : List Cond := .code yX8_wide cX8_wide 1 (some .int) :: ([])
def wsX8_readInstruction_r1 : List Cond := [Cond.fieldLink RX8 75 "CodeImagesModel" "place" "I", Cond.fieldLink RX8 50 "CodeImagesModel" "locals" "[I", Cond.fieldLink RX8 23 "CodeImagesModel" "fieldCounts" "[I", Cond.fieldLink RX8 89 "CodeImagesModel" "classes" "I", Cond.fieldLink RX8 29 "CodeImagesModel" "slots" "[I", Cond.fieldLink RX8 16 "CodeImagesModel" "begins" "[Z", Cond.fieldLink RX8 117 "CodeImagesModel" "instructions" "I", Cond.methodLink RX8 92 yX8_over, Cond.instanceMethod yX8_over, Cond.selects RX8 yX8_over yX8_over, Cond.initialized RX8, Cond.code yX8_over cX8_over 3 (some .boolean), Cond.methodLink RX8 81 yX8_here, Cond.instanceMethod yX8_here, Cond.selects RX8 yX8_here yX8_here, Cond.code yX8_here cX8_here 1 (some .int), Cond.fieldLink RX8 78 "CodeImagesModel" "size" "I", Cond.fieldLink RX8 13 "CodeImagesModel" "image" "[I", Cond.methodLink RX8 85 yX8_bad, Cond.instanceMethod yX8_bad, Cond.selects RX8 yX8_bad yX8_bad, Cond.code yX8_bad cX8_bad 2 (some .boolean), Cond.fieldLink RX8 72 "CodeImagesModel" "wrong" "I", Cond.methodLink RX8 96 yX8_last]
def wsX8_readInstruction_r2 : List Cond := [Cond.instanceMethod yX8_last, Cond.selects RX8 yX8_last yX8_last, Cond.code yX8_last cX8_last 1 (some .int), Cond.methodLink RX8 114 yX8_wide, Cond.static yX8_wide, Cond.code yX8_wide cX8_wide 1 (some .int), Cond.methodLink RX8 110 yX8_overClass, Cond.instanceMethod yX8_overClass, Cond.selects RX8 yX8_overClass yX8_overClass, Cond.code yX8_overClass cX8_overClass 1 (some .boolean)]
def wsX8_readInstruction : List Cond := .code yX8_readInstruction cX8_readInstruction 8 (some .boolean) :: ((wsX8_readInstruction_r1 ++ wsX8_readInstruction_r2) ++ wsX80)
def wsX8_readMethod_r1 : List Cond := [Cond.fieldLink RX8 89 "CodeImagesModel" "classes" "I", Cond.fieldLink RX8 75 "CodeImagesModel" "place" "I", Cond.fieldLink RX8 38 "CodeImagesModel" "owners" "[I", Cond.fieldLink RX8 44 "CodeImagesModel" "parameterTypes" "[I", Cond.fieldLink RX8 41 "CodeImagesModel" "parameterCounts" "[I", Cond.fieldLink RX8 47 "CodeImagesModel" "gives" "[I", Cond.fieldLink RX8 50 "CodeImagesModel" "locals" "[I", Cond.fieldLink RX8 53 "CodeImagesModel" "stacks" "[I", Cond.fieldLink RX8 59 "CodeImagesModel" "codeSizes" "[I", Cond.fieldLink RX8 56 "CodeImagesModel" "codeAt" "[I", Cond.fieldLink RX8 62 "CodeImagesModel" "handlerCounts" "[I", Cond.fieldLink RX8 65 "CodeImagesModel" "handlerAt" "[I", Cond.methodLink RX8 81 yX8_here, Cond.instanceMethod yX8_here, Cond.selects RX8 yX8_here yX8_here, Cond.initialized RX8, Cond.code yX8_here cX8_here 1 (some .int), Cond.fieldLink RX8 78 "CodeImagesModel" "size" "I", Cond.fieldLink RX8 13 "CodeImagesModel" "image" "[I", Cond.methodLink RX8 85 yX8_bad, Cond.instanceMethod yX8_bad, Cond.selects RX8 yX8_bad yX8_bad, Cond.code yX8_bad cX8_bad 2 (some .boolean), Cond.fieldLink RX8 72 "CodeImagesModel" "wrong" "I"]
def wsX8_readMethod_r2 : List Cond := [Cond.methodLink RX8 92 yX8_over, Cond.instanceMethod yX8_over, Cond.selects RX8 yX8_over yX8_over, Cond.code yX8_over cX8_over 3 (some .boolean), Cond.methodLink RX8 96 yX8_last, Cond.instanceMethod yX8_last, Cond.selects RX8 yX8_last yX8_last, Cond.code yX8_last cX8_last 1 (some .int), Cond.methodLink RX8 99 yX8_overType, Cond.instanceMethod yX8_overType, Cond.selects RX8 yX8_overType yX8_overType, Cond.code yX8_overType cX8_overType 4 (some .boolean), Cond.methodLink RX8 103 yX8_two, Cond.instanceMethod yX8_two, Cond.selects RX8 yX8_two yX8_two, Cond.code yX8_two cX8_two 2 (some .int), Cond.methodLink RX8 107 yX8_readInstruction, Cond.instanceMethod yX8_readInstruction, Cond.selects RX8 yX8_readInstruction yX8_readInstruction, Cond.code yX8_readInstruction cX8_readInstruction 8 (some .boolean), Cond.fieldLink RX8 23 "CodeImagesModel" "fieldCounts" "[I", Cond.fieldLink RX8 29 "CodeImagesModel" "slots" "[I", Cond.fieldLink RX8 16 "CodeImagesModel" "begins" "[Z", Cond.fieldLink RX8 117 "CodeImagesModel" "instructions" "I"]
def wsX8_readMethod_r3 : List Cond := [Cond.methodLink RX8 114 yX8_wide, Cond.static yX8_wide, Cond.code yX8_wide cX8_wide 1 (some .int), Cond.methodLink RX8 110 yX8_overClass, Cond.instanceMethod yX8_overClass, Cond.selects RX8 yX8_overClass yX8_overClass, Cond.code yX8_overClass cX8_overClass 1 (some .boolean)]
def wsX8_readMethod : List Cond := .code yX8_readMethod cX8_readMethod 7 (some .boolean) :: ((wsX8_readMethod_r1 ++ (wsX8_readMethod_r2 ++ wsX8_readMethod_r3)) ++ wsX80)
def wsX8_readAll_r1 : List Cond := [Cond.fieldLink RX8 89 "CodeImagesModel" "classes" "I", Cond.fieldLink RX8 35 "CodeImagesModel" "throwns" "[I", Cond.fieldLink RX8 123 "CodeImagesModel" "methods" "I", Cond.fieldLink RX8 38 "CodeImagesModel" "owners" "[I", Cond.fieldLink RX8 41 "CodeImagesModel" "parameterCounts" "[I", Cond.fieldLink RX8 75 "CodeImagesModel" "place" "I", Cond.fieldLink RX8 129 "CodeImagesModel" "first" "I", Cond.fieldLink RX8 78 "CodeImagesModel" "size" "I", Cond.methodLink RX8 92 yX8_over, Cond.instanceMethod yX8_over, Cond.selects RX8 yX8_over yX8_over, Cond.initialized RX8, Cond.code yX8_over cX8_over 3 (some .boolean), Cond.methodLink RX8 81 yX8_here, Cond.instanceMethod yX8_here, Cond.selects RX8 yX8_here yX8_here, Cond.code yX8_here cX8_here 1 (some .int), Cond.fieldLink RX8 13 "CodeImagesModel" "image" "[I", Cond.methodLink RX8 85 yX8_bad, Cond.instanceMethod yX8_bad, Cond.selects RX8 yX8_bad yX8_bad, Cond.code yX8_bad cX8_bad 2 (some .boolean), Cond.fieldLink RX8 72 "CodeImagesModel" "wrong" "I", Cond.methodLink RX8 96 yX8_last]
def wsX8_readAll_r2 : List Cond := [Cond.instanceMethod yX8_last, Cond.selects RX8 yX8_last yX8_last, Cond.code yX8_last cX8_last 1 (some .int), Cond.methodLink RX8 120 yX8_readClass, Cond.instanceMethod yX8_readClass, Cond.selects RX8 yX8_readClass yX8_readClass, Cond.code yX8_readClass cX8_readClass 8 (some .boolean), Cond.fieldLink RX8 20 "CodeImagesModel" "uppers" "[I", Cond.fieldLink RX8 23 "CodeImagesModel" "fieldCounts" "[I", Cond.fieldLink RX8 26 "CodeImagesModel" "fieldTypes" "[I", Cond.fieldLink RX8 29 "CodeImagesModel" "slots" "[I", Cond.fieldLink RX8 32 "CodeImagesModel" "slotPlaces" "[I", Cond.methodLink RX8 99 yX8_overType, Cond.instanceMethod yX8_overType, Cond.selects RX8 yX8_overType yX8_overType, Cond.code yX8_overType cX8_overType 4 (some .boolean), Cond.methodLink RX8 110 yX8_overClass, Cond.instanceMethod yX8_overClass, Cond.selects RX8 yX8_overClass yX8_overClass, Cond.code yX8_overClass cX8_overClass 1 (some .boolean), Cond.methodLink RX8 126 yX8_readMethod, Cond.instanceMethod yX8_readMethod, Cond.selects RX8 yX8_readMethod yX8_readMethod, Cond.code yX8_readMethod cX8_readMethod 7 (some .boolean)]
def wsX8_readAll_r3 : List Cond := [Cond.fieldLink RX8 44 "CodeImagesModel" "parameterTypes" "[I", Cond.fieldLink RX8 47 "CodeImagesModel" "gives" "[I", Cond.fieldLink RX8 50 "CodeImagesModel" "locals" "[I", Cond.fieldLink RX8 53 "CodeImagesModel" "stacks" "[I", Cond.fieldLink RX8 59 "CodeImagesModel" "codeSizes" "[I", Cond.fieldLink RX8 56 "CodeImagesModel" "codeAt" "[I", Cond.fieldLink RX8 62 "CodeImagesModel" "handlerCounts" "[I", Cond.fieldLink RX8 65 "CodeImagesModel" "handlerAt" "[I", Cond.methodLink RX8 103 yX8_two, Cond.instanceMethod yX8_two, Cond.selects RX8 yX8_two yX8_two, Cond.code yX8_two cX8_two 2 (some .int), Cond.methodLink RX8 107 yX8_readInstruction, Cond.instanceMethod yX8_readInstruction, Cond.selects RX8 yX8_readInstruction yX8_readInstruction, Cond.code yX8_readInstruction cX8_readInstruction 8 (some .boolean), Cond.fieldLink RX8 16 "CodeImagesModel" "begins" "[Z", Cond.fieldLink RX8 117 "CodeImagesModel" "instructions" "I", Cond.methodLink RX8 114 yX8_wide, Cond.static yX8_wide, Cond.code yX8_wide cX8_wide 1 (some .int)]
def wsX8_readAll : List Cond := .code yX8_readAll cX8_readAll 2 (some .boolean) :: ((wsX8_readAll_r1 ++ (wsX8_readAll_r2 ++ wsX8_readAll_r3)) ++ wsX80)
def wsX8_note : List Cond := .code yX8_note cX8_note 3 none :: ([.fieldLink RX8 72 "CodeImagesModel" "wrong" "I"] ++ wsX80)
def wsX8_isBegin : List Cond := .code yX8_isBegin cX8_isBegin 3 (some .boolean) :: ([.fieldLink RX8 59 "CodeImagesModel" "codeSizes" "[I", .fieldLink RX8 16 "CodeImagesModel" "begins" "[Z", .fieldLink RX8 56 "CodeImagesModel" "codeAt" "[I"] ++ wsX80)
def wsX8_isLike : List Cond := .code yX8_isLike cX8_isLike 5 (some .boolean) :: ([.fieldLink RX8 41 "CodeImagesModel" "parameterCounts" "[I", .fieldLink RX8 47 "CodeImagesModel" "gives" "[I", .fieldLink RX8 44 "CodeImagesModel" "parameterTypes" "[I"] ++ wsX80)
def wsX8_checkSlots : List Cond := .code yX8_checkSlots cX8_checkSlots 6 none :: ([.fieldLink RX8 89 "CodeImagesModel" "classes" "I", .fieldLink RX8 29 "CodeImagesModel" "slots" "[I", .fieldLink RX8 32 "CodeImagesModel" "slotPlaces" "[I", .fieldLink RX8 20 "CodeImagesModel" "uppers" "[I", .fieldLink RX8 123 "CodeImagesModel" "methods" "I", .fieldLink RX8 38 "CodeImagesModel" "owners" "[I", .methodLink RX8 132 yX8_isLike, .instanceMethod yX8_isLike, .selects RX8 yX8_isLike yX8_isLike, .initialized RX8, .code yX8_isLike cX8_isLike 5 (some .boolean), .fieldLink RX8 41 "CodeImagesModel" "parameterCounts" "[I", .fieldLink RX8 47 "CodeImagesModel" "gives" "[I", .fieldLink RX8 44 "CodeImagesModel" "parameterTypes" "[I", .methodLink RX8 135 yX8_note, .instanceMethod yX8_note, .selects RX8 yX8_note yX8_note, .code yX8_note cX8_note 3 none, .fieldLink RX8 72 "CodeImagesModel" "wrong" "I"] ++ wsX80)
def wsX8_checkCode : List Cond := .code yX8_checkCode cX8_checkCode 5 none :: ([.fieldLink RX8 56 "CodeImagesModel" "codeAt" "[I", .fieldLink RX8 59 "CodeImagesModel" "codeSizes" "[I", .fieldLink RX8 16 "CodeImagesModel" "begins" "[Z", .fieldLink RX8 13 "CodeImagesModel" "image" "[I", .fieldLink RX8 123 "CodeImagesModel" "methods" "I", .fieldLink RX8 62 "CodeImagesModel" "handlerCounts" "[I", .fieldLink RX8 65 "CodeImagesModel" "handlerAt" "[I", .methodLink RX8 103 yX8_two, .instanceMethod yX8_two, .selects RX8 yX8_two yX8_two, .initialized RX8, .code yX8_two cX8_two 2 (some .int), .methodLink RX8 139 yX8_isBegin, .instanceMethod yX8_isBegin, .selects RX8 yX8_isBegin yX8_isBegin, .code yX8_isBegin cX8_isBegin 3 (some .boolean), .methodLink RX8 135 yX8_note, .instanceMethod yX8_note, .selects RX8 yX8_note yX8_note, .code yX8_note cX8_note 3 none, .fieldLink RX8 72 "CodeImagesModel" "wrong" "I"] ++ wsX80)
def wsX8_end_r1 : List Cond := [Cond.fieldLink RX8 68 "CodeImagesModel" "taped" "I", Cond.fieldLink RX8 78 "CodeImagesModel" "size" "I", Cond.fieldLink RX8 13 "CodeImagesModel" "image" "[I", Cond.fieldLink RX8 9 "CodeImagesModel" "tape" "[I", Cond.fieldLink RX8 16 "CodeImagesModel" "begins" "[Z", Cond.fieldLink RX8 75 "CodeImagesModel" "place" "I", Cond.fieldLink RX8 72 "CodeImagesModel" "wrong" "I", Cond.fieldLink RX8 117 "CodeImagesModel" "instructions" "I", Cond.fieldLink RX8 142 "CodeImagesModel" "there" "Z", Cond.fieldLink RX8 123 "CodeImagesModel" "methods" "I", Cond.methodLink RX8 146 yX8_readAll, Cond.instanceMethod yX8_readAll, Cond.selects RX8 yX8_readAll yX8_readAll, Cond.initialized RX8, Cond.code yX8_readAll cX8_readAll 2 (some .boolean), Cond.fieldLink RX8 89 "CodeImagesModel" "classes" "I", Cond.fieldLink RX8 35 "CodeImagesModel" "throwns" "[I", Cond.fieldLink RX8 38 "CodeImagesModel" "owners" "[I", Cond.fieldLink RX8 41 "CodeImagesModel" "parameterCounts" "[I", Cond.fieldLink RX8 129 "CodeImagesModel" "first" "I", Cond.methodLink RX8 92 yX8_over, Cond.instanceMethod yX8_over, Cond.selects RX8 yX8_over yX8_over, Cond.code yX8_over cX8_over 3 (some .boolean)]
def wsX8_end_r2 : List Cond := [Cond.methodLink RX8 81 yX8_here, Cond.instanceMethod yX8_here, Cond.selects RX8 yX8_here yX8_here, Cond.code yX8_here cX8_here 1 (some .int), Cond.methodLink RX8 85 yX8_bad, Cond.instanceMethod yX8_bad, Cond.selects RX8 yX8_bad yX8_bad, Cond.code yX8_bad cX8_bad 2 (some .boolean), Cond.methodLink RX8 96 yX8_last, Cond.instanceMethod yX8_last, Cond.selects RX8 yX8_last yX8_last, Cond.code yX8_last cX8_last 1 (some .int), Cond.methodLink RX8 120 yX8_readClass, Cond.instanceMethod yX8_readClass, Cond.selects RX8 yX8_readClass yX8_readClass, Cond.code yX8_readClass cX8_readClass 8 (some .boolean), Cond.fieldLink RX8 20 "CodeImagesModel" "uppers" "[I", Cond.fieldLink RX8 23 "CodeImagesModel" "fieldCounts" "[I", Cond.fieldLink RX8 26 "CodeImagesModel" "fieldTypes" "[I", Cond.fieldLink RX8 29 "CodeImagesModel" "slots" "[I", Cond.fieldLink RX8 32 "CodeImagesModel" "slotPlaces" "[I", Cond.methodLink RX8 99 yX8_overType, Cond.instanceMethod yX8_overType, Cond.selects RX8 yX8_overType yX8_overType]
def wsX8_end_r3 : List Cond := [Cond.code yX8_overType cX8_overType 4 (some .boolean), Cond.methodLink RX8 110 yX8_overClass, Cond.instanceMethod yX8_overClass, Cond.selects RX8 yX8_overClass yX8_overClass, Cond.code yX8_overClass cX8_overClass 1 (some .boolean), Cond.methodLink RX8 126 yX8_readMethod, Cond.instanceMethod yX8_readMethod, Cond.selects RX8 yX8_readMethod yX8_readMethod, Cond.code yX8_readMethod cX8_readMethod 7 (some .boolean), Cond.fieldLink RX8 44 "CodeImagesModel" "parameterTypes" "[I", Cond.fieldLink RX8 47 "CodeImagesModel" "gives" "[I", Cond.fieldLink RX8 50 "CodeImagesModel" "locals" "[I", Cond.fieldLink RX8 53 "CodeImagesModel" "stacks" "[I", Cond.fieldLink RX8 59 "CodeImagesModel" "codeSizes" "[I", Cond.fieldLink RX8 56 "CodeImagesModel" "codeAt" "[I", Cond.fieldLink RX8 62 "CodeImagesModel" "handlerCounts" "[I", Cond.fieldLink RX8 65 "CodeImagesModel" "handlerAt" "[I", Cond.methodLink RX8 103 yX8_two, Cond.instanceMethod yX8_two, Cond.selects RX8 yX8_two yX8_two, Cond.code yX8_two cX8_two 2 (some .int), Cond.methodLink RX8 107 yX8_readInstruction, Cond.instanceMethod yX8_readInstruction, Cond.selects RX8 yX8_readInstruction yX8_readInstruction]
def wsX8_end_r4 : List Cond := [Cond.code yX8_readInstruction cX8_readInstruction 8 (some .boolean), Cond.methodLink RX8 114 yX8_wide, Cond.static yX8_wide, Cond.code yX8_wide cX8_wide 1 (some .int), Cond.methodLink RX8 149 yX8_checkSlots, Cond.instanceMethod yX8_checkSlots, Cond.selects RX8 yX8_checkSlots yX8_checkSlots, Cond.code yX8_checkSlots cX8_checkSlots 6 none, Cond.methodLink RX8 132 yX8_isLike, Cond.instanceMethod yX8_isLike, Cond.selects RX8 yX8_isLike yX8_isLike, Cond.code yX8_isLike cX8_isLike 5 (some .boolean), Cond.methodLink RX8 135 yX8_note, Cond.instanceMethod yX8_note, Cond.selects RX8 yX8_note yX8_note, Cond.code yX8_note cX8_note 3 none, Cond.methodLink RX8 152 yX8_checkCode, Cond.instanceMethod yX8_checkCode, Cond.selects RX8 yX8_checkCode yX8_checkCode, Cond.code yX8_checkCode cX8_checkCode 5 none, Cond.methodLink RX8 139 yX8_isBegin, Cond.instanceMethod yX8_isBegin, Cond.selects RX8 yX8_isBegin yX8_isBegin, Cond.code yX8_isBegin cX8_isBegin 3 (some .boolean)]
def wsX8_end : List Cond := .code yX8_end cX8_end 3 (some .int) :: ((wsX8_end_r1 ++ (wsX8_end_r2 ++ (wsX8_end_r3 ++ wsX8_end_r4))) ++ wsX80)
def wsX8_count : List Cond := .code yX8_count cX8_count 2 (some .int) :: ([.fieldLink RX8 142 "CodeImagesModel" "there" "Z", .fieldLink RX8 89 "CodeImagesModel" "classes" "I", .fieldLink RX8 123 "CodeImagesModel" "methods" "I", .fieldLink RX8 117 "CodeImagesModel" "instructions" "I", .fieldLink RX8 129 "CodeImagesModel" "first" "I"] ++ wsX80)
def wsX8_isClass : List Cond := .code yX8_isClass cX8_isClass 2 (some .boolean) :: ([.fieldLink RX8 142 "CodeImagesModel" "there" "Z", .fieldLink RX8 89 "CodeImagesModel" "classes" "I"] ++ wsX80)
def wsX8_isMethod : List Cond := .code yX8_isMethod cX8_isMethod 2 (some .boolean) :: ([.fieldLink RX8 142 "CodeImagesModel" "there" "Z", .fieldLink RX8 123 "CodeImagesModel" "methods" "I"] ++ wsX80)
def wsX8_classOf : List Cond := .code yX8_classOf cX8_classOf 4 (some .int) :: ([.fieldLink RX8 20 "CodeImagesModel" "uppers" "[I", .fieldLink RX8 23 "CodeImagesModel" "fieldCounts" "[I", .fieldLink RX8 26 "CodeImagesModel" "fieldTypes" "[I", .fieldLink RX8 29 "CodeImagesModel" "slots" "[I", .methodLink RX8 156 yX8_isClass, .instanceMethod yX8_isClass, .selects RX8 yX8_isClass yX8_isClass, .initialized RX8, .code yX8_isClass cX8_isClass 2 (some .boolean), .fieldLink RX8 142 "CodeImagesModel" "there" "Z", .fieldLink RX8 89 "CodeImagesModel" "classes" "I"] ++ wsX80)
def wsX8_isA : List Cond := .code yX8_isA cX8_isA 4 (some .boolean) :: ([.fieldLink RX8 20 "CodeImagesModel" "uppers" "[I", .methodLink RX8 156 yX8_isClass, .instanceMethod yX8_isClass, .selects RX8 yX8_isClass yX8_isClass, .initialized RX8, .code yX8_isClass cX8_isClass 2 (some .boolean), .fieldLink RX8 142 "CodeImagesModel" "there" "Z", .fieldLink RX8 89 "CodeImagesModel" "classes" "I"] ++ wsX80)
def wsX8_counted : List Cond := .code yX8_counted cX8_counted 5 (some .int) :: ([.fieldLink RX8 59 "CodeImagesModel" "codeSizes" "[I", .fieldLink RX8 16 "CodeImagesModel" "begins" "[Z", .fieldLink RX8 56 "CodeImagesModel" "codeAt" "[I"] ++ wsX80)
def wsX8_method : List Cond := .code yX8_method cX8_method 4 (some .int) :: ([.fieldLink RX8 38 "CodeImagesModel" "owners" "[I", .fieldLink RX8 41 "CodeImagesModel" "parameterCounts" "[I", .fieldLink RX8 44 "CodeImagesModel" "parameterTypes" "[I", .fieldLink RX8 47 "CodeImagesModel" "gives" "[I", .fieldLink RX8 50 "CodeImagesModel" "locals" "[I", .fieldLink RX8 53 "CodeImagesModel" "stacks" "[I", .fieldLink RX8 59 "CodeImagesModel" "codeSizes" "[I", .fieldLink RX8 62 "CodeImagesModel" "handlerCounts" "[I", .methodLink RX8 159 yX8_isMethod, .instanceMethod yX8_isMethod, .selects RX8 yX8_isMethod yX8_isMethod, .initialized RX8, .code yX8_isMethod cX8_isMethod 2 (some .boolean), .fieldLink RX8 142 "CodeImagesModel" "there" "Z", .fieldLink RX8 123 "CodeImagesModel" "methods" "I", .methodLink RX8 162 yX8_counted, .instanceMethod yX8_counted, .selects RX8 yX8_counted yX8_counted, .code yX8_counted cX8_counted 5 (some .int), .fieldLink RX8 16 "CodeImagesModel" "begins" "[Z", .fieldLink RX8 56 "CodeImagesModel" "codeAt" "[I"] ++ wsX80)
def wsX8_handler : List Cond := .code yX8_handler cX8_handler 5 (some .int) :: ([.fieldLink RX8 62 "CodeImagesModel" "handlerCounts" "[I", .fieldLink RX8 65 "CodeImagesModel" "handlerAt" "[I", .fieldLink RX8 13 "CodeImagesModel" "image" "[I", .methodLink RX8 159 yX8_isMethod, .instanceMethod yX8_isMethod, .selects RX8 yX8_isMethod yX8_isMethod, .initialized RX8, .code yX8_isMethod cX8_isMethod 2 (some .boolean), .fieldLink RX8 142 "CodeImagesModel" "there" "Z", .fieldLink RX8 123 "CodeImagesModel" "methods" "I", .methodLink RX8 103 yX8_two, .instanceMethod yX8_two, .selects RX8 yX8_two yX8_two, .code yX8_two cX8_two 2 (some .int)] ++ wsX80)
def wsX8_instruction : List Cond := .code yX8_instruction cX8_instruction 7 (some .int) :: ([.fieldLink RX8 56 "CodeImagesModel" "codeAt" "[I", .fieldLink RX8 13 "CodeImagesModel" "image" "[I", .methodLink RX8 159 yX8_isMethod, .instanceMethod yX8_isMethod, .selects RX8 yX8_isMethod yX8_isMethod, .initialized RX8, .code yX8_isMethod cX8_isMethod 2 (some .boolean), .fieldLink RX8 142 "CodeImagesModel" "there" "Z", .fieldLink RX8 123 "CodeImagesModel" "methods" "I", .methodLink RX8 139 yX8_isBegin, .instanceMethod yX8_isBegin, .selects RX8 yX8_isBegin yX8_isBegin, .code yX8_isBegin cX8_isBegin 3 (some .boolean), .fieldLink RX8 59 "CodeImagesModel" "codeSizes" "[I", .fieldLink RX8 16 "CodeImagesModel" "begins" "[Z", .methodLink RX8 114 yX8_wide, .static yX8_wide, .code yX8_wide cX8_wide 1 (some .int), .methodLink RX8 103 yX8_two, .instanceMethod yX8_two, .selects RX8 yX8_two yX8_two, .code yX8_two cX8_two 2 (some .int)] ++ wsX80)
def wsX8_thrown : List Cond := .code yX8_thrown cX8_thrown 2 (some .int) :: ([.fieldLink RX8 142 "CodeImagesModel" "there" "Z", .fieldLink RX8 35 "CodeImagesModel" "throwns" "[I"] ++ wsX80)
def wsJ9_max_7cf53 : List Cond := .code yJ9_max_7cf53 cJ9_max_7cf53 2 (some .int) :: ([])
abbrev vwCl : List vw_C := [(RX0, TX0, 7), (RX1, TX1, 5), (RX2, TX2, 2), (RX3, TX3, 10), (RX5, TX5, 4), (RX6, TX6, 2), (RX7, TX7, 4), (RX8, TX8, 28)]
end
section
theorem dX0_init_0 : decode cX0_init 0 = .ok (.aload_n 0, 1) := by decide +kernel
theorem dX0_init_1 : decode cX0_init 1 = .ok (.invokespecial 3, 3) := by decide +kernel
theorem dX0_init_4 : decode cX0_init 4 = .ok (.aload_n 0, 1) := by decide +kernel
theorem dX0_init_5 : decode cX0_init 5 = .ok (.bipush 32, 2) := by decide +kernel
theorem dX0_init_7 : decode cX0_init 7 = .ok (.newarray .int, 2) := by decide +kernel
theorem dX0_init_9 : decode cX0_init 9 = .ok (.putfield 11, 3) := by decide +kernel
theorem dX0_init_12 : decode cX0_init 12 = .ok (.aload_n 0, 1) := by decide +kernel
theorem dX0_init_13 : decode cX0_init 13 = .ok (.bipush 32, 2) := by decide +kernel
theorem dX0_init_15 : decode cX0_init 15 = .ok (.newarray .int, 2) := by decide +kernel
theorem dX0_init_17 : decode cX0_init 17 = .ok (.putfield 15, 3) := by decide +kernel
theorem dX0_init_20 : decode cX0_init 20 = .ok (.aload_n 0, 1) := by decide +kernel
theorem dX0_init_21 : decode cX0_init 21 = .ok (.sipush 480, 3) := by decide +kernel
theorem dX0_init_24 : decode cX0_init 24 = .ok (.newarray .int, 2) := by decide +kernel
theorem dX0_init_26 : decode cX0_init 26 = .ok (.putfield 18, 3) := by decide +kernel
theorem dX0_init_29 : decode cX0_init 29 = .ok (.aload_n 0, 1) := by decide +kernel
theorem dX0_init_30 : decode cX0_init 30 = .ok (.sipush 512, 3) := by decide +kernel
theorem dX0_init_33 : decode cX0_init 33 = .ok (.newarray .int, 2) := by decide +kernel
theorem dX0_init_35 : decode cX0_init 35 = .ok (.putfield 21, 3) := by decide +kernel
theorem dX0_init_38 : decode cX0_init 38 = .ok (.aload_n 0, 1) := by decide +kernel
theorem dX0_init_39 : decode cX0_init 39 = .ok (.sipush 512, 3) := by decide +kernel
theorem dX0_init_42 : decode cX0_init 42 = .ok (.newarray .int, 2) := by decide +kernel
theorem dX0_init_44 : decode cX0_init 44 = .ok (.putfield 24, 3) := by decide +kernel
theorem dX0_init_47 : decode cX0_init 47 = .ok (.aload_n 0, 1) := by decide +kernel
theorem dX0_init_48 : decode cX0_init 48 = .ok (.iconst 5, 1) := by decide +kernel
theorem dX0_init_49 : decode cX0_init 49 = .ok (.newarray .int, 2) := by decide +kernel
theorem dX0_init_51 : decode cX0_init 51 = .ok (.putfield 27, 3) := by decide +kernel
theorem dX0_init_54 : decode cX0_init 54 = .ok (.return_, 1) := by decide +kernel
theorem dX0_clear_0 : decode cX0_clear 0 = .ok (.aload_n 0, 1) := by decide +kernel
theorem dX0_clear_1 : decode cX0_clear 1 = .ok (.iconst 0, 1) := by decide +kernel
theorem dX0_clear_2 : decode cX0_clear 2 = .ok (.putfield 30, 3) := by decide +kernel
theorem dX0_clear_5 : decode cX0_clear 5 = .ok (.return_, 1) := by decide +kernel
theorem dX0_size_0 : decode cX0_size 0 = .ok (.aload_n 0, 1) := by decide +kernel
theorem dX0_size_1 : decode cX0_size 1 = .ok (.getfield 30, 3) := by decide +kernel
theorem dX0_size_4 : decode cX0_size 4 = .ok (.ireturn, 1) := by decide +kernel
theorem dX0_has_0 : decode cX0_has 0 = .ok (.iload_n 1, 1) := by decide +kernel
theorem dX0_has_1 : decode cX0_has 1 = .ok (.ifCond .lt 21, 3) := by decide +kernel
theorem dX0_has_4 : decode cX0_has 4 = .ok (.iload_n 1, 1) := by decide +kernel
theorem dX0_has_5 : decode cX0_has 5 = .ok (.aload_n 0, 1) := by decide +kernel
theorem dX0_has_6 : decode cX0_has 6 = .ok (.getfield 30, 3) := by decide +kernel
theorem dX0_has_9 : decode cX0_has 9 = .ok (.if_icmp .ge 13, 3) := by decide +kernel
theorem dX0_has_12 : decode cX0_has 12 = .ok (.iload_n 1, 1) := by decide +kernel
theorem dX0_has_13 : decode cX0_has 13 = .ok (.bipush 32, 2) := by decide +kernel
theorem dX0_has_15 : decode cX0_has 15 = .ok (.if_icmp .ge 7, 3) := by decide +kernel
theorem dX0_has_18 : decode cX0_has 18 = .ok (.iconst 1, 1) := by decide +kernel
theorem dX0_has_19 : decode cX0_has 19 = .ok (.goto 4, 3) := by decide +kernel
theorem dX0_has_22 : decode cX0_has 22 = .ok (.iconst 0, 1) := by decide +kernel
theorem dX0_has_23 : decode cX0_has 23 = .ok (.ireturn, 1) := by decide +kernel
set_option maxRecDepth 20000 in
theorem ggX0_read_X5_number : GoodIn wsX0_read wsX5_number := goodIn_r _ [11, 12, 13, 14, 15, 16, 10, 17, 18, 19, 86, 87, 88, 89] (by decide +kernel) (by decide +kernel)
set_option maxRecDepth 20000 in
theorem gX0_read_X5_number : GoodIn wsX0_read (wsV RX0 34 RX5 yX5_number wsX5_number) := goodIn_app (goodIn_of _ (by decide +kernel)) ggX0_read_X5_number
set_option maxRecDepth 20000 in
theorem ggX0_read_X5_stopped : GoodIn wsX0_read wsX5_stopped := goodIn_r _ [23, 13, 86, 87, 88, 89] (by decide +kernel) (by decide +kernel)
set_option maxRecDepth 20000 in
theorem gX0_read_X5_stopped : GoodIn wsX0_read (wsV RX0 45 RX5 yX5_stopped wsX5_stopped) := goodIn_app (goodIn_of _ (by decide +kernel)) ggX0_read_X5_stopped
set_option maxRecDepth 20000 in
theorem ggX0_read_X0_readClass : GoodIn wsX0_read wsX0_readClass := goodIn_r _ [28, 29, 30, 31, 32, 10, 33, 34, 35, 36, 37, 12, 14, 15, 16, 17, 18, 19, 38, 8, 9, 11, 13, 39, 40, 41, 27, 42, 1, 2, 3, 4, 43, 44, 45, 46, 47, 48, 49, 50, 51, 52, 53, 54, 5, 55, 56, 57, 58, 59, 60, 61, 62, 63, 64, 65, 66, 7, 20, 21, 22, 23, 67, 68, 69, 70, 71, 72, 73, 74, 75, 76, 77, 78, 79, 80, 81, 82, 83, 84, 85, 86, 87, 88, 89] (by decide +kernel) (by decide +kernel)
set_option maxRecDepth 20000 in
theorem gX0_read_X0_readClass : GoodIn wsX0_read (wsV RX0 49 RX0 yX0_readClass wsX0_readClass) := goodIn_app (goodIn_of _ (by decide +kernel)) ggX0_read_X0_readClass
theorem dX0_read_0 : decode cX0_read 0 = .ok (.aload_n 0, 1) := by decide +kernel
theorem dX0_read_1 : decode cX0_read 1 = .ok (.aload_n 1, 1) := by decide +kernel
theorem dX0_read_2 : decode cX0_read 2 = .ok (.iconst 1, 1) := by decide +kernel
theorem dX0_read_3 : decode cX0_read 3 = .ok (.bipush 32, 2) := by decide +kernel
theorem dX0_read_5 : decode cX0_read 5 = .ok (.invokevirtual 34, 3) := by decide +kernel
theorem dX0_read_8 : decode cX0_read 8 = .ok (.iconst 0, 1) := by decide +kernel
theorem dX0_read_9 : decode cX0_read 9 = .ok (.invokestatic 40, 3) := by decide +kernel
theorem dX0_read_12 : decode cX0_read 12 = .ok (.putfield 30, 3) := by decide +kernel
theorem dX0_read_15 : decode cX0_read 15 = .ok (.iconst 0, 1) := by decide +kernel
theorem dX0_read_16 : decode cX0_read 16 = .ok (.istore_n 2, 1) := by decide +kernel
theorem dX0_read_17 : decode cX0_read 17 = .ok (.iload_n 2, 1) := by decide +kernel
theorem dX0_read_18 : decode cX0_read 18 = .ok (.aload_n 0, 1) := by decide +kernel
theorem dX0_read_19 : decode cX0_read 19 = .ok (.getfield 30, 3) := by decide +kernel
theorem dX0_read_22 : decode cX0_read 22 = .ok (.if_icmp .ge 22, 3) := by decide +kernel
theorem dX0_read_25 : decode cX0_read 25 = .ok (.aload_n 1, 1) := by decide +kernel
theorem dX0_read_26 : decode cX0_read 26 = .ok (.invokevirtual 45, 3) := by decide +kernel
theorem dX0_read_29 : decode cX0_read 29 = .ok (.ifCond .ne 15, 3) := by decide +kernel
theorem dX0_read_32 : decode cX0_read 32 = .ok (.aload_n 0, 1) := by decide +kernel
theorem dX0_read_33 : decode cX0_read 33 = .ok (.aload_n 1, 1) := by decide +kernel
theorem dX0_read_34 : decode cX0_read 34 = .ok (.iload_n 2, 1) := by decide +kernel
theorem dX0_read_35 : decode cX0_read 35 = .ok (.invokevirtual 49, 3) := by decide +kernel
theorem dX0_read_38 : decode cX0_read 38 = .ok (.iinc 2 1, 3) := by decide +kernel
theorem dX0_read_41 : decode cX0_read 41 = .ok (.goto (-24), 3) := by decide +kernel
theorem dX0_read_44 : decode cX0_read 44 = .ok (.iconst 0, 1) := by decide +kernel
theorem dX0_read_45 : decode cX0_read 45 = .ok (.istore_n 2, 1) := by decide +kernel
theorem dX0_read_46 : decode cX0_read 46 = .ok (.iload_n 2, 1) := by decide +kernel
theorem dX0_read_47 : decode cX0_read 47 = .ok (.iconst 5, 1) := by decide +kernel
theorem dX0_read_48 : decode cX0_read 48 = .ok (.if_icmp .ge 26, 3) := by decide +kernel
theorem dX0_read_51 : decode cX0_read 51 = .ok (.aload_n 0, 1) := by decide +kernel
theorem dX0_read_52 : decode cX0_read 52 = .ok (.getfield 27, 3) := by decide +kernel
theorem dX0_read_55 : decode cX0_read 55 = .ok (.iload_n 2, 1) := by decide +kernel
theorem dX0_read_56 : decode cX0_read 56 = .ok (.aload_n 1, 1) := by decide +kernel
theorem dX0_read_57 : decode cX0_read 57 = .ok (.iconst 0, 1) := by decide +kernel
theorem dX0_read_58 : decode cX0_read 58 = .ok (.aload_n 0, 1) := by decide +kernel
theorem dX0_read_59 : decode cX0_read 59 = .ok (.getfield 30, 3) := by decide +kernel
theorem dX0_read_62 : decode cX0_read 62 = .ok (.iconst 1, 1) := by decide +kernel
theorem dX0_read_63 : decode cX0_read 63 = .ok (.isub, 1) := by decide +kernel
theorem dX0_read_64 : decode cX0_read 64 = .ok (.invokevirtual 34, 3) := by decide +kernel
theorem dX0_read_67 : decode cX0_read 67 = .ok (.iastore, 1) := by decide +kernel
theorem dX0_read_68 : decode cX0_read 68 = .ok (.iinc 2 1, 3) := by decide +kernel
theorem dX0_read_71 : decode cX0_read 71 = .ok (.goto (-25), 3) := by decide +kernel
theorem dX0_read_74 : decode cX0_read 74 = .ok (.return_, 1) := by decide +kernel
set_option maxRecDepth 20000 in
theorem ggX0_readClass_X5_numberOrNothing : GoodIn wsX0_readClass wsX5_numberOrNothing := goodIn_r _ [6, 7, 8, 9, 5, 10, 11, 12, 13, 14, 15, 16, 17, 18, 19, 20, 21, 22, 81, 82, 83, 84] (by decide +kernel) (by decide +kernel)
set_option maxRecDepth 20000 in
theorem gX0_readClass_X5_numberOrNothing : GoodIn wsX0_readClass (wsV RX0 53 RX5 yX5_numberOrNothing wsX5_numberOrNothing) := goodIn_app (goodIn_of _ (by decide +kernel)) ggX0_readClass_X5_numberOrNothing
set_option maxRecDepth 20000 in
theorem ggX0_readClass_X0_inherit : GoodIn wsX0_readClass wsX0_inherit := goodIn_r _ [27, 1, 28, 29, 30, 31, 32, 33, 34, 35, 36, 37, 38, 26, 39, 40, 41, 42, 43, 44, 45, 46, 47, 48, 49, 50, 51, 52, 74, 75, 76, 77, 78, 79, 80] (by decide +kernel) (by decide +kernel)
set_option maxRecDepth 20000 in
theorem gX0_readClass_X0_inherit : GoodIn wsX0_readClass (wsV RX0 57 RX0 yX0_inherit wsX0_inherit) := goodIn_app (goodIn_of _ (by decide +kernel)) ggX0_readClass_X0_inherit
set_option maxRecDepth 20000 in
theorem ggX0_readClass_X0_readFields : GoodIn wsX0_readClass wsX0_readFields := goodIn_r _ [56, 32, 33, 44, 28, 29, 30, 31, 57, 19, 20, 5, 21, 11, 22, 12, 13, 14, 15, 16, 17, 58, 59, 60, 61, 62, 63, 64, 65, 7, 8, 9, 10, 18, 74, 75, 76, 77, 78, 79, 80, 81, 82, 83, 84] (by decide +kernel) (by decide +kernel)
set_option maxRecDepth 20000 in
theorem gX0_readClass_X0_readFields : GoodIn wsX0_readClass (wsV RX0 61 RX0 yX0_readFields wsX0_readFields) := goodIn_app (goodIn_of _ (by decide +kernel)) ggX0_readClass_X0_readFields
set_option maxRecDepth 20000 in
theorem ggX0_readClass_X0_readSlots : GoodIn wsX0_readClass wsX0_readSlots := goodIn_r _ [69, 34, 35, 57, 19, 20, 5, 21, 11, 22, 12, 13, 14, 15, 16, 17, 70, 71, 72, 73, 58, 59, 60, 61, 74, 75, 76, 77, 78, 79, 80, 81, 82, 83, 84] (by decide +kernel) (by decide +kernel)
set_option maxRecDepth 20000 in
theorem gX0_readClass_X0_readSlots : GoodIn wsX0_readClass (wsV RX0 64 RX0 yX0_readSlots wsX0_readSlots) := goodIn_app (goodIn_of _ (by decide +kernel)) ggX0_readClass_X0_readSlots
theorem dX0_readClass_0 : decode cX0_readClass 0 = .ok (.aload_n 1, 1) := by decide +kernel
theorem dX0_readClass_1 : decode cX0_readClass 1 = .ok (.iload_n 2, 1) := by decide +kernel
theorem dX0_readClass_2 : decode cX0_readClass 2 = .ok (.iconst 1, 1) := by decide +kernel
theorem dX0_readClass_3 : decode cX0_readClass 3 = .ok (.isub, 1) := by decide +kernel
theorem dX0_readClass_4 : decode cX0_readClass 4 = .ok (.invokevirtual 53, 3) := by decide +kernel
theorem dX0_readClass_7 : decode cX0_readClass 7 = .ok (.istore_n 3, 1) := by decide +kernel
theorem dX0_readClass_8 : decode cX0_readClass 8 = .ok (.aload_n 0, 1) := by decide +kernel
theorem dX0_readClass_9 : decode cX0_readClass 9 = .ok (.getfield 11, 3) := by decide +kernel
theorem dX0_readClass_12 : decode cX0_readClass 12 = .ok (.iload_n 2, 1) := by decide +kernel
theorem dX0_readClass_13 : decode cX0_readClass 13 = .ok (.iload_n 3, 1) := by decide +kernel
theorem dX0_readClass_14 : decode cX0_readClass 14 = .ok (.sipush 255, 3) := by decide +kernel
theorem dX0_readClass_17 : decode cX0_readClass 17 = .ok (.if_icmp .ne 7, 3) := by decide +kernel
theorem dX0_readClass_20 : decode cX0_readClass 20 = .ok (.iconst (-1), 1) := by decide +kernel
theorem dX0_readClass_21 : decode cX0_readClass 21 = .ok (.goto 4, 3) := by decide +kernel
theorem dX0_readClass_24 : decode cX0_readClass 24 = .ok (.iload_n 3, 1) := by decide +kernel
theorem dX0_readClass_25 : decode cX0_readClass 25 = .ok (.iastore, 1) := by decide +kernel
theorem dX0_readClass_26 : decode cX0_readClass 26 = .ok (.aload_n 0, 1) := by decide +kernel
theorem dX0_readClass_27 : decode cX0_readClass 27 = .ok (.iload_n 2, 1) := by decide +kernel
theorem dX0_readClass_28 : decode cX0_readClass 28 = .ok (.invokevirtual 57, 3) := by decide +kernel
theorem dX0_readClass_31 : decode cX0_readClass 31 = .ok (.aload_n 0, 1) := by decide +kernel
theorem dX0_readClass_32 : decode cX0_readClass 32 = .ok (.aload_n 1, 1) := by decide +kernel
theorem dX0_readClass_33 : decode cX0_readClass 33 = .ok (.iload_n 2, 1) := by decide +kernel
theorem dX0_readClass_34 : decode cX0_readClass 34 = .ok (.invokevirtual 61, 3) := by decide +kernel
theorem dX0_readClass_37 : decode cX0_readClass 37 = .ok (.aload_n 0, 1) := by decide +kernel
theorem dX0_readClass_38 : decode cX0_readClass 38 = .ok (.aload_n 1, 1) := by decide +kernel
theorem dX0_readClass_39 : decode cX0_readClass 39 = .ok (.iload_n 2, 1) := by decide +kernel
theorem dX0_readClass_40 : decode cX0_readClass 40 = .ok (.invokevirtual 64, 3) := by decide +kernel
theorem dX0_readClass_43 : decode cX0_readClass 43 = .ok (.return_, 1) := by decide +kernel
set_option maxRecDepth 20000 in
theorem ggX0_inherit_X0_fields : GoodIn wsX0_inherit wsX0_fields := goodIn_r _ [14, 6, 15, 16, 17, 13, 18, 19, 28, 29, 30, 31, 32, 33, 34] (by decide +kernel) (by decide +kernel)
set_option maxRecDepth 20000 in
theorem gX0_inherit_X0_fields : GoodIn wsX0_inherit (wsV RX0 67 RX0 yX0_fields wsX0_fields) := goodIn_app (goodIn_of _ (by decide +kernel)) ggX0_inherit_X0_fields
set_option maxRecDepth 20000 in
theorem ggX0_inherit_X0_fieldType : GoodIn wsX0_inherit wsX0_fieldType := goodIn_r _ [23, 7, 10, 11, 12, 13, 14, 6, 15, 16, 17, 18, 19, 28, 29, 30, 31, 32, 33, 34] (by decide +kernel) (by decide +kernel)
set_option maxRecDepth 20000 in
theorem gX0_inherit_X0_fieldType : GoodIn wsX0_inherit (wsV RX0 70 RX0 yX0_fieldType wsX0_fieldType) := goodIn_app (goodIn_of _ (by decide +kernel)) ggX0_inherit_X0_fieldType
set_option maxRecDepth 20000 in
theorem ggX0_inherit_X0_slotMethod : GoodIn wsX0_inherit wsX0_slotMethod := goodIn_r _ [27, 8, 15, 16, 17, 13, 18, 19, 28, 29, 30, 31, 32, 33, 34] (by decide +kernel) (by decide +kernel)
set_option maxRecDepth 20000 in
theorem gX0_inherit_X0_slotMethod : GoodIn wsX0_inherit (wsV RX0 73 RX0 yX0_slotMethod wsX0_slotMethod) := goodIn_app (goodIn_of _ (by decide +kernel)) ggX0_inherit_X0_slotMethod
theorem dX0_inherit_0 : decode cX0_inherit 0 = .ok (.aload_n 0, 1) := by decide +kernel
theorem dX0_inherit_1 : decode cX0_inherit 1 = .ok (.getfield 11, 3) := by decide +kernel
theorem dX0_inherit_4 : decode cX0_inherit 4 = .ok (.iload_n 1, 1) := by decide +kernel
theorem dX0_inherit_5 : decode cX0_inherit 5 = .ok (.iaload, 1) := by decide +kernel
theorem dX0_inherit_6 : decode cX0_inherit 6 = .ok (.istore_n 2, 1) := by decide +kernel
theorem dX0_inherit_7 : decode cX0_inherit 7 = .ok (.aload_n 0, 1) := by decide +kernel
theorem dX0_inherit_8 : decode cX0_inherit 8 = .ok (.iload_n 2, 1) := by decide +kernel
theorem dX0_inherit_9 : decode cX0_inherit 9 = .ok (.invokevirtual 67, 3) := by decide +kernel
theorem dX0_inherit_12 : decode cX0_inherit 12 = .ok (.iconst 0, 1) := by decide +kernel
theorem dX0_inherit_13 : decode cX0_inherit 13 = .ok (.invokestatic 40, 3) := by decide +kernel
theorem dX0_inherit_16 : decode cX0_inherit 16 = .ok (.istore_n 3, 1) := by decide +kernel
theorem dX0_inherit_17 : decode cX0_inherit 17 = .ok (.aload_n 0, 1) := by decide +kernel
theorem dX0_inherit_18 : decode cX0_inherit 18 = .ok (.getfield 15, 3) := by decide +kernel
theorem dX0_inherit_21 : decode cX0_inherit 21 = .ok (.iload_n 1, 1) := by decide +kernel
theorem dX0_inherit_22 : decode cX0_inherit 22 = .ok (.iload_n 3, 1) := by decide +kernel
theorem dX0_inherit_23 : decode cX0_inherit 23 = .ok (.iastore, 1) := by decide +kernel
theorem dX0_inherit_24 : decode cX0_inherit 24 = .ok (.iconst 0, 1) := by decide +kernel
theorem dX0_inherit_25 : decode cX0_inherit 25 = .ok (.istore 4, 2) := by decide +kernel
theorem dX0_inherit_27 : decode cX0_inherit 27 = .ok (.iload 4, 2) := by decide +kernel
theorem dX0_inherit_29 : decode cX0_inherit 29 = .ok (.iload_n 3, 1) := by decide +kernel
theorem dX0_inherit_30 : decode cX0_inherit 30 = .ok (.if_icmp .ge 28, 3) := by decide +kernel
theorem dX0_inherit_33 : decode cX0_inherit 33 = .ok (.aload_n 0, 1) := by decide +kernel
theorem dX0_inherit_34 : decode cX0_inherit 34 = .ok (.getfield 18, 3) := by decide +kernel
theorem dX0_inherit_37 : decode cX0_inherit 37 = .ok (.iload_n 1, 1) := by decide +kernel
theorem dX0_inherit_38 : decode cX0_inherit 38 = .ok (.bipush 15, 2) := by decide +kernel
theorem dX0_inherit_40 : decode cX0_inherit 40 = .ok (.imul, 1) := by decide +kernel
theorem dX0_inherit_41 : decode cX0_inherit 41 = .ok (.iload 4, 2) := by decide +kernel
theorem dX0_inherit_43 : decode cX0_inherit 43 = .ok (.iadd, 1) := by decide +kernel
theorem dX0_inherit_44 : decode cX0_inherit 44 = .ok (.aload_n 0, 1) := by decide +kernel
theorem dX0_inherit_45 : decode cX0_inherit 45 = .ok (.iload_n 2, 1) := by decide +kernel
theorem dX0_inherit_46 : decode cX0_inherit 46 = .ok (.iload 4, 2) := by decide +kernel
theorem dX0_inherit_48 : decode cX0_inherit 48 = .ok (.invokevirtual 70, 3) := by decide +kernel
theorem dX0_inherit_51 : decode cX0_inherit 51 = .ok (.iastore, 1) := by decide +kernel
theorem dX0_inherit_52 : decode cX0_inherit 52 = .ok (.iinc 4 1, 3) := by decide +kernel
theorem dX0_inherit_55 : decode cX0_inherit 55 = .ok (.goto (-28), 3) := by decide +kernel
theorem dX0_inherit_58 : decode cX0_inherit 58 = .ok (.iconst 0, 1) := by decide +kernel
theorem dX0_inherit_59 : decode cX0_inherit 59 = .ok (.istore 4, 2) := by decide +kernel
theorem dX0_inherit_61 : decode cX0_inherit 61 = .ok (.iload 4, 2) := by decide +kernel
theorem dX0_inherit_63 : decode cX0_inherit 63 = .ok (.bipush 16, 2) := by decide +kernel
theorem dX0_inherit_65 : decode cX0_inherit 65 = .ok (.if_icmp .ge 41, 3) := by decide +kernel
theorem dX0_inherit_68 : decode cX0_inherit 68 = .ok (.aload_n 0, 1) := by decide +kernel
theorem dX0_inherit_69 : decode cX0_inherit 69 = .ok (.getfield 21, 3) := by decide +kernel
theorem dX0_inherit_72 : decode cX0_inherit 72 = .ok (.iload_n 1, 1) := by decide +kernel
theorem dX0_inherit_73 : decode cX0_inherit 73 = .ok (.bipush 16, 2) := by decide +kernel
theorem dX0_inherit_75 : decode cX0_inherit 75 = .ok (.imul, 1) := by decide +kernel
theorem dX0_inherit_76 : decode cX0_inherit 76 = .ok (.iload 4, 2) := by decide +kernel
theorem dX0_inherit_78 : decode cX0_inherit 78 = .ok (.iadd, 1) := by decide +kernel
theorem dX0_inherit_79 : decode cX0_inherit 79 = .ok (.aload_n 0, 1) := by decide +kernel
theorem dX0_inherit_80 : decode cX0_inherit 80 = .ok (.iload_n 2, 1) := by decide +kernel
theorem dX0_inherit_81 : decode cX0_inherit 81 = .ok (.iload 4, 2) := by decide +kernel
theorem dX0_inherit_83 : decode cX0_inherit 83 = .ok (.invokevirtual 73, 3) := by decide +kernel
theorem dX0_inherit_86 : decode cX0_inherit 86 = .ok (.iastore, 1) := by decide +kernel
theorem dX0_inherit_87 : decode cX0_inherit 87 = .ok (.aload_n 0, 1) := by decide +kernel
theorem dX0_inherit_88 : decode cX0_inherit 88 = .ok (.getfield 24, 3) := by decide +kernel
theorem dX0_inherit_91 : decode cX0_inherit 91 = .ok (.iload_n 1, 1) := by decide +kernel
theorem dX0_inherit_92 : decode cX0_inherit 92 = .ok (.bipush 16, 2) := by decide +kernel
theorem dX0_inherit_94 : decode cX0_inherit 94 = .ok (.imul, 1) := by decide +kernel
theorem dX0_inherit_95 : decode cX0_inherit 95 = .ok (.iload 4, 2) := by decide +kernel
theorem dX0_inherit_97 : decode cX0_inherit 97 = .ok (.iadd, 1) := by decide +kernel
theorem dX0_inherit_98 : decode cX0_inherit 98 = .ok (.iconst (-1), 1) := by decide +kernel
theorem dX0_inherit_99 : decode cX0_inherit 99 = .ok (.iastore, 1) := by decide +kernel
theorem dX0_inherit_100 : decode cX0_inherit 100 = .ok (.iinc 4 1, 3) := by decide +kernel
theorem dX0_inherit_103 : decode cX0_inherit 103 = .ok (.goto (-42), 3) := by decide +kernel
theorem dX0_inherit_106 : decode cX0_inherit 106 = .ok (.return_, 1) := by decide +kernel
set_option maxRecDepth 20000 in
theorem ggX0_readFields_X5_number : GoodIn wsX0_readFields wsX5_number := goodIn_r _ [12, 13, 14, 15, 16, 17, 11, 18, 19, 20, 41, 42, 43, 44] (by decide +kernel) (by decide +kernel)
set_option maxRecDepth 20000 in
theorem gX0_readFields_X5_number : GoodIn wsX0_readFields (wsV RX0 34 RX5 yX5_number wsX5_number) := goodIn_app (goodIn_of _ (by decide +kernel)) ggX0_readFields_X5_number
set_option maxRecDepth 20000 in
theorem ggX0_readFields_X5_stopped : GoodIn wsX0_readFields wsX5_stopped := goodIn_r _ [24, 14, 41, 42, 43, 44] (by decide +kernel) (by decide +kernel)
set_option maxRecDepth 20000 in
theorem gX0_readFields_X5_stopped : GoodIn wsX0_readFields (wsV RX0 45 RX5 yX5_stopped wsX5_stopped) := goodIn_app (goodIn_of _ (by decide +kernel)) ggX0_readFields_X5_stopped
set_option maxRecDepth 20000 in
theorem ggX0_readFields_X5_type : GoodIn wsX0_readFields wsX5_type := goodIn_r _ [28, 29, 30, 31, 11, 32, 13, 15, 16, 17, 18, 19, 20, 33, 9, 10, 12, 14, 41, 42, 43, 44] (by decide +kernel) (by decide +kernel)
set_option maxRecDepth 20000 in
theorem gX0_readFields_X5_type : GoodIn wsX0_readFields (wsV RX0 76 RX5 yX5_type wsX5_type) := goodIn_app (goodIn_of _ (by decide +kernel)) ggX0_readFields_X5_type
theorem dX0_readFields_0 : decode cX0_readFields 0 = .ok (.aload_n 0, 1) := by decide +kernel
theorem dX0_readFields_1 : decode cX0_readFields 1 = .ok (.getfield 15, 3) := by decide +kernel
theorem dX0_readFields_4 : decode cX0_readFields 4 = .ok (.iload_n 2, 1) := by decide +kernel
theorem dX0_readFields_5 : decode cX0_readFields 5 = .ok (.iaload, 1) := by decide +kernel
theorem dX0_readFields_6 : decode cX0_readFields 6 = .ok (.istore_n 3, 1) := by decide +kernel
theorem dX0_readFields_7 : decode cX0_readFields 7 = .ok (.aload_n 1, 1) := by decide +kernel
theorem dX0_readFields_8 : decode cX0_readFields 8 = .ok (.iconst 0, 1) := by decide +kernel
theorem dX0_readFields_9 : decode cX0_readFields 9 = .ok (.bipush 15, 2) := by decide +kernel
theorem dX0_readFields_11 : decode cX0_readFields 11 = .ok (.iload_n 3, 1) := by decide +kernel
theorem dX0_readFields_12 : decode cX0_readFields 12 = .ok (.isub, 1) := by decide +kernel
theorem dX0_readFields_13 : decode cX0_readFields 13 = .ok (.invokevirtual 34, 3) := by decide +kernel
theorem dX0_readFields_16 : decode cX0_readFields 16 = .ok (.istore 4, 2) := by decide +kernel
theorem dX0_readFields_18 : decode cX0_readFields 18 = .ok (.iconst 0, 1) := by decide +kernel
theorem dX0_readFields_19 : decode cX0_readFields 19 = .ok (.istore 5, 2) := by decide +kernel
theorem dX0_readFields_21 : decode cX0_readFields 21 = .ok (.iload 5, 2) := by decide +kernel
theorem dX0_readFields_23 : decode cX0_readFields 23 = .ok (.iload 4, 2) := by decide +kernel
theorem dX0_readFields_25 : decode cX0_readFields 25 = .ok (.if_icmp .ge 38, 3) := by decide +kernel
theorem dX0_readFields_28 : decode cX0_readFields 28 = .ok (.aload_n 1, 1) := by decide +kernel
theorem dX0_readFields_29 : decode cX0_readFields 29 = .ok (.invokevirtual 45, 3) := by decide +kernel
theorem dX0_readFields_32 : decode cX0_readFields 32 = .ok (.ifCond .ne 31, 3) := by decide +kernel
theorem dX0_readFields_35 : decode cX0_readFields 35 = .ok (.aload_n 0, 1) := by decide +kernel
theorem dX0_readFields_36 : decode cX0_readFields 36 = .ok (.getfield 18, 3) := by decide +kernel
theorem dX0_readFields_39 : decode cX0_readFields 39 = .ok (.iload_n 2, 1) := by decide +kernel
theorem dX0_readFields_40 : decode cX0_readFields 40 = .ok (.bipush 15, 2) := by decide +kernel
theorem dX0_readFields_42 : decode cX0_readFields 42 = .ok (.imul, 1) := by decide +kernel
theorem dX0_readFields_43 : decode cX0_readFields 43 = .ok (.iload_n 3, 1) := by decide +kernel
theorem dX0_readFields_44 : decode cX0_readFields 44 = .ok (.iadd, 1) := by decide +kernel
theorem dX0_readFields_45 : decode cX0_readFields 45 = .ok (.iload 5, 2) := by decide +kernel
theorem dX0_readFields_47 : decode cX0_readFields 47 = .ok (.iadd, 1) := by decide +kernel
theorem dX0_readFields_48 : decode cX0_readFields 48 = .ok (.aload_n 1, 1) := by decide +kernel
theorem dX0_readFields_49 : decode cX0_readFields 49 = .ok (.aload_n 0, 1) := by decide +kernel
theorem dX0_readFields_50 : decode cX0_readFields 50 = .ok (.getfield 30, 3) := by decide +kernel
theorem dX0_readFields_53 : decode cX0_readFields 53 = .ok (.invokevirtual 76, 3) := by decide +kernel
theorem dX0_readFields_56 : decode cX0_readFields 56 = .ok (.iastore, 1) := by decide +kernel
theorem dX0_readFields_57 : decode cX0_readFields 57 = .ok (.iinc 5 1, 3) := by decide +kernel
theorem dX0_readFields_60 : decode cX0_readFields 60 = .ok (.goto (-39), 3) := by decide +kernel
theorem dX0_readFields_63 : decode cX0_readFields 63 = .ok (.aload_n 0, 1) := by decide +kernel
theorem dX0_readFields_64 : decode cX0_readFields 64 = .ok (.getfield 15, 3) := by decide +kernel
theorem dX0_readFields_67 : decode cX0_readFields 67 = .ok (.iload_n 2, 1) := by decide +kernel
theorem dX0_readFields_68 : decode cX0_readFields 68 = .ok (.iload_n 3, 1) := by decide +kernel
theorem dX0_readFields_69 : decode cX0_readFields 69 = .ok (.iload 4, 2) := by decide +kernel
theorem dX0_readFields_71 : decode cX0_readFields 71 = .ok (.iconst 0, 1) := by decide +kernel
theorem dX0_readFields_72 : decode cX0_readFields 72 = .ok (.invokestatic 40, 3) := by decide +kernel
theorem dX0_readFields_75 : decode cX0_readFields 75 = .ok (.iadd, 1) := by decide +kernel
theorem dX0_readFields_76 : decode cX0_readFields 76 = .ok (.iastore, 1) := by decide +kernel
theorem dX0_readFields_77 : decode cX0_readFields 77 = .ok (.return_, 1) := by decide +kernel
set_option maxRecDepth 20000 in
theorem ggX0_readSlots_X5_number : GoodIn wsX0_readSlots wsX5_number := goodIn_r _ [7, 8, 9, 10, 11, 12, 6, 13, 14, 15, 31, 32, 33, 34] (by decide +kernel) (by decide +kernel)
set_option maxRecDepth 20000 in
theorem gX0_readSlots_X5_number : GoodIn wsX0_readSlots (wsV RX0 34 RX5 yX5_number wsX5_number) := goodIn_app (goodIn_of _ (by decide +kernel)) ggX0_readSlots_X5_number
set_option maxRecDepth 20000 in
theorem ggX0_readSlots_X5_place : GoodIn wsX0_readSlots wsX5_place := goodIn_r _ [19, 8, 31, 32, 33, 34] (by decide +kernel) (by decide +kernel)
set_option maxRecDepth 20000 in
theorem gX0_readSlots_X5_place : GoodIn wsX0_readSlots (wsV RX0 79 RX5 yX5_place wsX5_place) := goodIn_app (goodIn_of _ (by decide +kernel)) ggX0_readSlots_X5_place
set_option maxRecDepth 20000 in
theorem ggX0_readSlots_X5_stopped : GoodIn wsX0_readSlots wsX5_stopped := goodIn_r _ [23, 9, 31, 32, 33, 34] (by decide +kernel) (by decide +kernel)
set_option maxRecDepth 20000 in
theorem gX0_readSlots_X5_stopped : GoodIn wsX0_readSlots (wsV RX0 45 RX5 yX5_stopped wsX5_stopped) := goodIn_app (goodIn_of _ (by decide +kernel)) ggX0_readSlots_X5_stopped
theorem dX0_readSlots_0 : decode cX0_readSlots 0 = .ok (.aload_n 1, 1) := by decide +kernel
theorem dX0_readSlots_1 : decode cX0_readSlots 1 = .ok (.iconst 0, 1) := by decide +kernel
theorem dX0_readSlots_2 : decode cX0_readSlots 2 = .ok (.bipush 16, 2) := by decide +kernel
theorem dX0_readSlots_4 : decode cX0_readSlots 4 = .ok (.invokevirtual 34, 3) := by decide +kernel
theorem dX0_readSlots_7 : decode cX0_readSlots 7 = .ok (.istore_n 3, 1) := by decide +kernel
theorem dX0_readSlots_8 : decode cX0_readSlots 8 = .ok (.iconst 0, 1) := by decide +kernel
theorem dX0_readSlots_9 : decode cX0_readSlots 9 = .ok (.istore 4, 2) := by decide +kernel
theorem dX0_readSlots_11 : decode cX0_readSlots 11 = .ok (.iconst 0, 1) := by decide +kernel
theorem dX0_readSlots_12 : decode cX0_readSlots 12 = .ok (.istore 5, 2) := by decide +kernel
theorem dX0_readSlots_14 : decode cX0_readSlots 14 = .ok (.iload 5, 2) := by decide +kernel
theorem dX0_readSlots_16 : decode cX0_readSlots 16 = .ok (.iload_n 3, 1) := by decide +kernel
theorem dX0_readSlots_17 : decode cX0_readSlots 17 = .ok (.if_icmp .ge 77, 3) := by decide +kernel
theorem dX0_readSlots_20 : decode cX0_readSlots 20 = .ok (.aload_n 1, 1) := by decide +kernel
theorem dX0_readSlots_21 : decode cX0_readSlots 21 = .ok (.iload 4, 2) := by decide +kernel
theorem dX0_readSlots_23 : decode cX0_readSlots 23 = .ok (.bipush 15, 2) := by decide +kernel
theorem dX0_readSlots_25 : decode cX0_readSlots 25 = .ok (.invokevirtual 34, 3) := by decide +kernel
theorem dX0_readSlots_28 : decode cX0_readSlots 28 = .ok (.istore 6, 2) := by decide +kernel
theorem dX0_readSlots_30 : decode cX0_readSlots 30 = .ok (.aload_n 1, 1) := by decide +kernel
theorem dX0_readSlots_31 : decode cX0_readSlots 31 = .ok (.invokevirtual 79, 3) := by decide +kernel
theorem dX0_readSlots_34 : decode cX0_readSlots 34 = .ok (.istore 7, 2) := by decide +kernel
theorem dX0_readSlots_36 : decode cX0_readSlots 36 = .ok (.aload_n 1, 1) := by decide +kernel
theorem dX0_readSlots_37 : decode cX0_readSlots 37 = .ok (.iconst 0, 1) := by decide +kernel
theorem dX0_readSlots_38 : decode cX0_readSlots 38 = .ok (.sipush 255, 3) := by decide +kernel
theorem dX0_readSlots_41 : decode cX0_readSlots 41 = .ok (.invokevirtual 34, 3) := by decide +kernel
theorem dX0_readSlots_44 : decode cX0_readSlots 44 = .ok (.istore 8, 2) := by decide +kernel
theorem dX0_readSlots_46 : decode cX0_readSlots 46 = .ok (.aload_n 1, 1) := by decide +kernel
theorem dX0_readSlots_47 : decode cX0_readSlots 47 = .ok (.invokevirtual 45, 3) := by decide +kernel
theorem dX0_readSlots_50 : decode cX0_readSlots 50 = .ok (.ifCond .eq 4, 3) := by decide +kernel
theorem dX0_readSlots_53 : decode cX0_readSlots 53 = .ok (.return_, 1) := by decide +kernel
theorem dX0_readSlots_54 : decode cX0_readSlots 54 = .ok (.aload_n 0, 1) := by decide +kernel
theorem dX0_readSlots_55 : decode cX0_readSlots 55 = .ok (.getfield 21, 3) := by decide +kernel
theorem dX0_readSlots_58 : decode cX0_readSlots 58 = .ok (.iload_n 2, 1) := by decide +kernel
theorem dX0_readSlots_59 : decode cX0_readSlots 59 = .ok (.bipush 16, 2) := by decide +kernel
theorem dX0_readSlots_61 : decode cX0_readSlots 61 = .ok (.imul, 1) := by decide +kernel
theorem dX0_readSlots_62 : decode cX0_readSlots 62 = .ok (.iload 6, 2) := by decide +kernel
theorem dX0_readSlots_64 : decode cX0_readSlots 64 = .ok (.iadd, 1) := by decide +kernel
theorem dX0_readSlots_65 : decode cX0_readSlots 65 = .ok (.iload 8, 2) := by decide +kernel
theorem dX0_readSlots_67 : decode cX0_readSlots 67 = .ok (.iastore, 1) := by decide +kernel
theorem dX0_readSlots_68 : decode cX0_readSlots 68 = .ok (.aload_n 0, 1) := by decide +kernel
theorem dX0_readSlots_69 : decode cX0_readSlots 69 = .ok (.getfield 24, 3) := by decide +kernel
theorem dX0_readSlots_72 : decode cX0_readSlots 72 = .ok (.iload_n 2, 1) := by decide +kernel
theorem dX0_readSlots_73 : decode cX0_readSlots 73 = .ok (.bipush 16, 2) := by decide +kernel
theorem dX0_readSlots_75 : decode cX0_readSlots 75 = .ok (.imul, 1) := by decide +kernel
theorem dX0_readSlots_76 : decode cX0_readSlots 76 = .ok (.iload 6, 2) := by decide +kernel
theorem dX0_readSlots_78 : decode cX0_readSlots 78 = .ok (.iadd, 1) := by decide +kernel
theorem dX0_readSlots_79 : decode cX0_readSlots 79 = .ok (.iload 7, 2) := by decide +kernel
theorem dX0_readSlots_81 : decode cX0_readSlots 81 = .ok (.iastore, 1) := by decide +kernel
theorem dX0_readSlots_82 : decode cX0_readSlots 82 = .ok (.iload 6, 2) := by decide +kernel
theorem dX0_readSlots_84 : decode cX0_readSlots 84 = .ok (.iconst 1, 1) := by decide +kernel
theorem dX0_readSlots_85 : decode cX0_readSlots 85 = .ok (.iadd, 1) := by decide +kernel
theorem dX0_readSlots_86 : decode cX0_readSlots 86 = .ok (.istore 4, 2) := by decide +kernel
theorem dX0_readSlots_88 : decode cX0_readSlots 88 = .ok (.iinc 5 1, 3) := by decide +kernel
theorem dX0_readSlots_91 : decode cX0_readSlots 91 = .ok (.goto (-77), 3) := by decide +kernel
theorem dX0_readSlots_94 : decode cX0_readSlots 94 = .ok (.return_, 1) := by decide +kernel
set_option maxRecDepth 20000 in
theorem ggX0_upper_X0_has : GoodIn wsX0_upper wsX0_has := goodIn_r _ [6, 7, 8, 9, 10, 11, 12, 13, 14] (by decide +kernel) (by decide +kernel)
set_option maxRecDepth 20000 in
theorem gX0_upper_X0_has : GoodIn wsX0_upper (wsV RX0 83 RX0 yX0_has wsX0_has) := goodIn_app (goodIn_of _ (by decide +kernel)) ggX0_upper_X0_has
theorem dX0_upper_0 : decode cX0_upper 0 = .ok (.aload_n 0, 1) := by decide +kernel
theorem dX0_upper_1 : decode cX0_upper 1 = .ok (.iload_n 1, 1) := by decide +kernel
theorem dX0_upper_2 : decode cX0_upper 2 = .ok (.invokevirtual 83, 3) := by decide +kernel
theorem dX0_upper_5 : decode cX0_upper 5 = .ok (.ifCond .eq 12, 3) := by decide +kernel
theorem dX0_upper_8 : decode cX0_upper 8 = .ok (.aload_n 0, 1) := by decide +kernel
theorem dX0_upper_9 : decode cX0_upper 9 = .ok (.getfield 11, 3) := by decide +kernel
theorem dX0_upper_12 : decode cX0_upper 12 = .ok (.iload_n 1, 1) := by decide +kernel
theorem dX0_upper_13 : decode cX0_upper 13 = .ok (.iaload, 1) := by decide +kernel
theorem dX0_upper_14 : decode cX0_upper 14 = .ok (.goto 4, 3) := by decide +kernel
theorem dX0_upper_17 : decode cX0_upper 17 = .ok (.iconst (-1), 1) := by decide +kernel
theorem dX0_upper_18 : decode cX0_upper 18 = .ok (.ireturn, 1) := by decide +kernel
set_option maxRecDepth 20000 in
theorem ggX0_fields_X0_has : GoodIn wsX0_fields wsX0_has := goodIn_r _ [6, 7, 8, 9, 10, 11, 12, 13, 14] (by decide +kernel) (by decide +kernel)
set_option maxRecDepth 20000 in
theorem gX0_fields_X0_has : GoodIn wsX0_fields (wsV RX0 83 RX0 yX0_has wsX0_has) := goodIn_app (goodIn_of _ (by decide +kernel)) ggX0_fields_X0_has
theorem dX0_fields_0 : decode cX0_fields 0 = .ok (.aload_n 0, 1) := by decide +kernel
theorem dX0_fields_1 : decode cX0_fields 1 = .ok (.iload_n 1, 1) := by decide +kernel
theorem dX0_fields_2 : decode cX0_fields 2 = .ok (.invokevirtual 83, 3) := by decide +kernel
theorem dX0_fields_5 : decode cX0_fields 5 = .ok (.ifCond .eq 12, 3) := by decide +kernel
theorem dX0_fields_8 : decode cX0_fields 8 = .ok (.aload_n 0, 1) := by decide +kernel
theorem dX0_fields_9 : decode cX0_fields 9 = .ok (.getfield 15, 3) := by decide +kernel
theorem dX0_fields_12 : decode cX0_fields 12 = .ok (.iload_n 1, 1) := by decide +kernel
theorem dX0_fields_13 : decode cX0_fields 13 = .ok (.iaload, 1) := by decide +kernel
theorem dX0_fields_14 : decode cX0_fields 14 = .ok (.goto 4, 3) := by decide +kernel
theorem dX0_fields_17 : decode cX0_fields 17 = .ok (.iconst (-1), 1) := by decide +kernel
theorem dX0_fields_18 : decode cX0_fields 18 = .ok (.ireturn, 1) := by decide +kernel
set_option maxRecDepth 20000 in
theorem ggX0_fieldType_X0_fields : GoodIn wsX0_fieldType wsX0_fields := goodIn_r _ [6, 7, 8, 9, 10, 5, 11, 12, 13, 14, 15, 16, 17, 18, 19] (by decide +kernel) (by decide +kernel)
set_option maxRecDepth 20000 in
theorem gX0_fieldType_X0_fields : GoodIn wsX0_fieldType (wsV RX0 67 RX0 yX0_fields wsX0_fields) := goodIn_app (goodIn_of _ (by decide +kernel)) ggX0_fieldType_X0_fields
theorem dX0_fieldType_0 : decode cX0_fieldType 0 = .ok (.iload_n 2, 1) := by decide +kernel
theorem dX0_fieldType_1 : decode cX0_fieldType 1 = .ok (.ifCond .lt 26, 3) := by decide +kernel
theorem dX0_fieldType_4 : decode cX0_fieldType 4 = .ok (.iload_n 2, 1) := by decide +kernel
theorem dX0_fieldType_5 : decode cX0_fieldType 5 = .ok (.aload_n 0, 1) := by decide +kernel
theorem dX0_fieldType_6 : decode cX0_fieldType 6 = .ok (.iload_n 1, 1) := by decide +kernel
theorem dX0_fieldType_7 : decode cX0_fieldType 7 = .ok (.invokevirtual 67, 3) := by decide +kernel
theorem dX0_fieldType_10 : decode cX0_fieldType 10 = .ok (.if_icmp .ge 17, 3) := by decide +kernel
theorem dX0_fieldType_13 : decode cX0_fieldType 13 = .ok (.aload_n 0, 1) := by decide +kernel
theorem dX0_fieldType_14 : decode cX0_fieldType 14 = .ok (.getfield 18, 3) := by decide +kernel
theorem dX0_fieldType_17 : decode cX0_fieldType 17 = .ok (.iload_n 1, 1) := by decide +kernel
theorem dX0_fieldType_18 : decode cX0_fieldType 18 = .ok (.bipush 15, 2) := by decide +kernel
theorem dX0_fieldType_20 : decode cX0_fieldType 20 = .ok (.imul, 1) := by decide +kernel
theorem dX0_fieldType_21 : decode cX0_fieldType 21 = .ok (.iload_n 2, 1) := by decide +kernel
theorem dX0_fieldType_22 : decode cX0_fieldType 22 = .ok (.iadd, 1) := by decide +kernel
theorem dX0_fieldType_23 : decode cX0_fieldType 23 = .ok (.iaload, 1) := by decide +kernel
theorem dX0_fieldType_24 : decode cX0_fieldType 24 = .ok (.goto 4, 3) := by decide +kernel
theorem dX0_fieldType_27 : decode cX0_fieldType 27 = .ok (.iconst (-1), 1) := by decide +kernel
theorem dX0_fieldType_28 : decode cX0_fieldType 28 = .ok (.ireturn, 1) := by decide +kernel
set_option maxRecDepth 20000 in
theorem ggX0_slotMethod_X0_has : GoodIn wsX0_slotMethod wsX0_has := goodIn_r _ [6, 7, 8, 9, 10, 11, 12, 13, 14] (by decide +kernel) (by decide +kernel)
set_option maxRecDepth 20000 in
theorem gX0_slotMethod_X0_has : GoodIn wsX0_slotMethod (wsV RX0 83 RX0 yX0_has wsX0_has) := goodIn_app (goodIn_of _ (by decide +kernel)) ggX0_slotMethod_X0_has
theorem dX0_slotMethod_0 : decode cX0_slotMethod 0 = .ok (.aload_n 0, 1) := by decide +kernel
theorem dX0_slotMethod_1 : decode cX0_slotMethod 1 = .ok (.iload_n 1, 1) := by decide +kernel
theorem dX0_slotMethod_2 : decode cX0_slotMethod 2 = .ok (.invokevirtual 83, 3) := by decide +kernel
theorem dX0_slotMethod_5 : decode cX0_slotMethod 5 = .ok (.ifCond .eq 27, 3) := by decide +kernel
theorem dX0_slotMethod_8 : decode cX0_slotMethod 8 = .ok (.iload_n 2, 1) := by decide +kernel
theorem dX0_slotMethod_9 : decode cX0_slotMethod 9 = .ok (.ifCond .lt 23, 3) := by decide +kernel
theorem dX0_slotMethod_12 : decode cX0_slotMethod 12 = .ok (.iload_n 2, 1) := by decide +kernel
theorem dX0_slotMethod_13 : decode cX0_slotMethod 13 = .ok (.bipush 16, 2) := by decide +kernel
theorem dX0_slotMethod_15 : decode cX0_slotMethod 15 = .ok (.if_icmp .ge 17, 3) := by decide +kernel
theorem dX0_slotMethod_18 : decode cX0_slotMethod 18 = .ok (.aload_n 0, 1) := by decide +kernel
theorem dX0_slotMethod_19 : decode cX0_slotMethod 19 = .ok (.getfield 21, 3) := by decide +kernel
theorem dX0_slotMethod_22 : decode cX0_slotMethod 22 = .ok (.iload_n 1, 1) := by decide +kernel
theorem dX0_slotMethod_23 : decode cX0_slotMethod 23 = .ok (.bipush 16, 2) := by decide +kernel
theorem dX0_slotMethod_25 : decode cX0_slotMethod 25 = .ok (.imul, 1) := by decide +kernel
theorem dX0_slotMethod_26 : decode cX0_slotMethod 26 = .ok (.iload_n 2, 1) := by decide +kernel
theorem dX0_slotMethod_27 : decode cX0_slotMethod 27 = .ok (.iadd, 1) := by decide +kernel
theorem dX0_slotMethod_28 : decode cX0_slotMethod 28 = .ok (.iaload, 1) := by decide +kernel
theorem dX0_slotMethod_29 : decode cX0_slotMethod 29 = .ok (.goto 4, 3) := by decide +kernel
theorem dX0_slotMethod_32 : decode cX0_slotMethod 32 = .ok (.iconst (-1), 1) := by decide +kernel
theorem dX0_slotMethod_33 : decode cX0_slotMethod 33 = .ok (.ireturn, 1) := by decide +kernel
set_option maxRecDepth 20000 in
theorem ggX0_slotPlace_X0_has : GoodIn wsX0_slotPlace wsX0_has := goodIn_r _ [6, 7, 8, 9, 10, 11, 12, 13, 14] (by decide +kernel) (by decide +kernel)
set_option maxRecDepth 20000 in
theorem gX0_slotPlace_X0_has : GoodIn wsX0_slotPlace (wsV RX0 83 RX0 yX0_has wsX0_has) := goodIn_app (goodIn_of _ (by decide +kernel)) ggX0_slotPlace_X0_has
theorem dX0_slotPlace_0 : decode cX0_slotPlace 0 = .ok (.aload_n 0, 1) := by decide +kernel
theorem dX0_slotPlace_1 : decode cX0_slotPlace 1 = .ok (.iload_n 1, 1) := by decide +kernel
theorem dX0_slotPlace_2 : decode cX0_slotPlace 2 = .ok (.invokevirtual 83, 3) := by decide +kernel
theorem dX0_slotPlace_5 : decode cX0_slotPlace 5 = .ok (.ifCond .eq 27, 3) := by decide +kernel
theorem dX0_slotPlace_8 : decode cX0_slotPlace 8 = .ok (.iload_n 2, 1) := by decide +kernel
theorem dX0_slotPlace_9 : decode cX0_slotPlace 9 = .ok (.ifCond .lt 23, 3) := by decide +kernel
theorem dX0_slotPlace_12 : decode cX0_slotPlace 12 = .ok (.iload_n 2, 1) := by decide +kernel
theorem dX0_slotPlace_13 : decode cX0_slotPlace 13 = .ok (.bipush 16, 2) := by decide +kernel
theorem dX0_slotPlace_15 : decode cX0_slotPlace 15 = .ok (.if_icmp .ge 17, 3) := by decide +kernel
theorem dX0_slotPlace_18 : decode cX0_slotPlace 18 = .ok (.aload_n 0, 1) := by decide +kernel
theorem dX0_slotPlace_19 : decode cX0_slotPlace 19 = .ok (.getfield 24, 3) := by decide +kernel
theorem dX0_slotPlace_22 : decode cX0_slotPlace 22 = .ok (.iload_n 1, 1) := by decide +kernel
theorem dX0_slotPlace_23 : decode cX0_slotPlace 23 = .ok (.bipush 16, 2) := by decide +kernel
theorem dX0_slotPlace_25 : decode cX0_slotPlace 25 = .ok (.imul, 1) := by decide +kernel
theorem dX0_slotPlace_26 : decode cX0_slotPlace 26 = .ok (.iload_n 2, 1) := by decide +kernel
theorem dX0_slotPlace_27 : decode cX0_slotPlace 27 = .ok (.iadd, 1) := by decide +kernel
theorem dX0_slotPlace_28 : decode cX0_slotPlace 28 = .ok (.iaload, 1) := by decide +kernel
theorem dX0_slotPlace_29 : decode cX0_slotPlace 29 = .ok (.goto 4, 3) := by decide +kernel
theorem dX0_slotPlace_32 : decode cX0_slotPlace 32 = .ok (.iconst (-1), 1) := by decide +kernel
theorem dX0_slotPlace_33 : decode cX0_slotPlace 33 = .ok (.ireturn, 1) := by decide +kernel
set_option maxRecDepth 20000 in
theorem ggX0_reaches_X0_has : GoodIn wsX0_reaches wsX0_has := goodIn_r _ [6, 7, 8, 9, 10, 11, 12, 13, 14] (by decide +kernel) (by decide +kernel)
set_option maxRecDepth 20000 in
theorem gX0_reaches_X0_has : GoodIn wsX0_reaches (wsV RX0 83 RX0 yX0_has wsX0_has) := goodIn_app (goodIn_of _ (by decide +kernel)) ggX0_reaches_X0_has
theorem dX0_reaches_0 : decode cX0_reaches 0 = .ok (.iload_n 1, 1) := by decide +kernel
theorem dX0_reaches_1 : decode cX0_reaches 1 = .ok (.istore_n 3, 1) := by decide +kernel
theorem dX0_reaches_2 : decode cX0_reaches 2 = .ok (.iconst 0, 1) := by decide +kernel
theorem dX0_reaches_3 : decode cX0_reaches 3 = .ok (.istore 4, 2) := by decide +kernel
theorem dX0_reaches_5 : decode cX0_reaches 5 = .ok (.iload 4, 2) := by decide +kernel
theorem dX0_reaches_7 : decode cX0_reaches 7 = .ok (.bipush 32, 2) := by decide +kernel
theorem dX0_reaches_9 : decode cX0_reaches 9 = .ok (.if_icmp .ge 31, 3) := by decide +kernel
theorem dX0_reaches_12 : decode cX0_reaches 12 = .ok (.aload_n 0, 1) := by decide +kernel
theorem dX0_reaches_13 : decode cX0_reaches 13 = .ok (.iload_n 3, 1) := by decide +kernel
theorem dX0_reaches_14 : decode cX0_reaches 14 = .ok (.invokevirtual 83, 3) := by decide +kernel
theorem dX0_reaches_17 : decode cX0_reaches 17 = .ok (.ifCond .eq 23, 3) := by decide +kernel
theorem dX0_reaches_20 : decode cX0_reaches 20 = .ok (.iload_n 3, 1) := by decide +kernel
theorem dX0_reaches_21 : decode cX0_reaches 21 = .ok (.iload_n 2, 1) := by decide +kernel
theorem dX0_reaches_22 : decode cX0_reaches 22 = .ok (.if_icmp .ne 5, 3) := by decide +kernel
theorem dX0_reaches_25 : decode cX0_reaches 25 = .ok (.iconst 1, 1) := by decide +kernel
theorem dX0_reaches_26 : decode cX0_reaches 26 = .ok (.ireturn, 1) := by decide +kernel
theorem dX0_reaches_27 : decode cX0_reaches 27 = .ok (.aload_n 0, 1) := by decide +kernel
theorem dX0_reaches_28 : decode cX0_reaches 28 = .ok (.getfield 11, 3) := by decide +kernel
theorem dX0_reaches_31 : decode cX0_reaches 31 = .ok (.iload_n 3, 1) := by decide +kernel
theorem dX0_reaches_32 : decode cX0_reaches 32 = .ok (.iaload, 1) := by decide +kernel
theorem dX0_reaches_33 : decode cX0_reaches 33 = .ok (.istore_n 3, 1) := by decide +kernel
theorem dX0_reaches_34 : decode cX0_reaches 34 = .ok (.iinc 4 1, 3) := by decide +kernel
theorem dX0_reaches_37 : decode cX0_reaches 37 = .ok (.goto (-32), 3) := by decide +kernel
theorem dX0_reaches_40 : decode cX0_reaches 40 = .ok (.iconst 0, 1) := by decide +kernel
theorem dX0_reaches_41 : decode cX0_reaches 41 = .ok (.ireturn, 1) := by decide +kernel
theorem dX0_fault_0 : decode cX0_fault 0 = .ok (.aload_n 0, 1) := by decide +kernel
theorem dX0_fault_1 : decode cX0_fault 1 = .ok (.getfield 30, 3) := by decide +kernel
theorem dX0_fault_4 : decode cX0_fault 4 = .ok (.ifCond .le 21, 3) := by decide +kernel
theorem dX0_fault_7 : decode cX0_fault 7 = .ok (.iload_n 1, 1) := by decide +kernel
theorem dX0_fault_8 : decode cX0_fault 8 = .ok (.ifCond .lt 17, 3) := by decide +kernel
theorem dX0_fault_11 : decode cX0_fault 11 = .ok (.iload_n 1, 1) := by decide +kernel
theorem dX0_fault_12 : decode cX0_fault 12 = .ok (.iconst 5, 1) := by decide +kernel
theorem dX0_fault_13 : decode cX0_fault 13 = .ok (.if_icmp .ge 12, 3) := by decide +kernel
theorem dX0_fault_16 : decode cX0_fault 16 = .ok (.aload_n 0, 1) := by decide +kernel
theorem dX0_fault_17 : decode cX0_fault 17 = .ok (.getfield 27, 3) := by decide +kernel
theorem dX0_fault_20 : decode cX0_fault 20 = .ok (.iload_n 1, 1) := by decide +kernel
theorem dX0_fault_21 : decode cX0_fault 21 = .ok (.iaload, 1) := by decide +kernel
theorem dX0_fault_22 : decode cX0_fault 22 = .ok (.goto 4, 3) := by decide +kernel
theorem dX0_fault_25 : decode cX0_fault 25 = .ok (.iconst (-1), 1) := by decide +kernel
theorem dX0_fault_26 : decode cX0_fault 26 = .ok (.ireturn, 1) := by decide +kernel
theorem dX1_init_0 : decode cX1_init 0 = .ok (.aload_n 0, 1) := by decide +kernel
theorem dX1_init_1 : decode cX1_init 1 = .ok (.invokespecial 3, 3) := by decide +kernel
theorem dX1_init_4 : decode cX1_init 4 = .ok (.aload_n 0, 1) := by decide +kernel
theorem dX1_init_5 : decode cX1_init 5 = .ok (.bipush 64, 2) := by decide +kernel
theorem dX1_init_7 : decode cX1_init 7 = .ok (.newarray .int, 2) := by decide +kernel
theorem dX1_init_9 : decode cX1_init 9 = .ok (.putfield 11, 3) := by decide +kernel
theorem dX1_init_12 : decode cX1_init 12 = .ok (.aload_n 0, 1) := by decide +kernel
theorem dX1_init_13 : decode cX1_init 13 = .ok (.bipush 64, 2) := by decide +kernel
theorem dX1_init_15 : decode cX1_init 15 = .ok (.newarray .int, 2) := by decide +kernel
theorem dX1_init_17 : decode cX1_init 17 = .ok (.putfield 17, 3) := by decide +kernel
theorem dX1_init_20 : decode cX1_init 20 = .ok (.aload_n 0, 1) := by decide +kernel
theorem dX1_init_21 : decode cX1_init 21 = .ok (.bipush 64, 2) := by decide +kernel
theorem dX1_init_23 : decode cX1_init 23 = .ok (.newarray .int, 2) := by decide +kernel
theorem dX1_init_25 : decode cX1_init 25 = .ok (.putfield 20, 3) := by decide +kernel
theorem dX1_init_28 : decode cX1_init 28 = .ok (.aload_n 0, 1) := by decide +kernel
theorem dX1_init_29 : decode cX1_init 29 = .ok (.sipush 250, 3) := by decide +kernel
theorem dX1_init_32 : decode cX1_init 32 = .ok (.newarray .int, 2) := by decide +kernel
theorem dX1_init_34 : decode cX1_init 34 = .ok (.putfield 25, 3) := by decide +kernel
theorem dX1_init_37 : decode cX1_init 37 = .ok (.return_, 1) := by decide +kernel
set_option maxRecDepth 20000 in
theorem ggX1_clear_J7_fill_53178 : GoodIn wsX1_clear wsJ7_fill_53178 := goodIn_r _ [6] (by decide +kernel) (by decide +kernel)
set_option maxRecDepth 20000 in
theorem gX1_clear_J7_fill_53178 : GoodIn wsX1_clear (va_wsS RX1 32 yJ7_fill_53178 wsJ7_fill_53178) := goodIn_app (goodIn_of _ (by decide +kernel)) ggX1_clear_J7_fill_53178
theorem dX1_clear_0 : decode cX1_clear 0 = .ok (.aload_n 0, 1) := by decide +kernel
theorem dX1_clear_1 : decode cX1_clear 1 = .ok (.iconst 0, 1) := by decide +kernel
theorem dX1_clear_2 : decode cX1_clear 2 = .ok (.putfield 28, 3) := by decide +kernel
theorem dX1_clear_5 : decode cX1_clear 5 = .ok (.aload_n 0, 1) := by decide +kernel
theorem dX1_clear_6 : decode cX1_clear 6 = .ok (.getfield 25, 3) := by decide +kernel
theorem dX1_clear_9 : decode cX1_clear 9 = .ok (.iconst 0, 1) := by decide +kernel
theorem dX1_clear_10 : decode cX1_clear 10 = .ok (.invokestatic 32, 3) := by decide +kernel
theorem dX1_clear_13 : decode cX1_clear 13 = .ok (.return_, 1) := by decide +kernel
theorem dX1_total_0 : decode cX1_total 0 = .ok (.aload_n 0, 1) := by decide +kernel
theorem dX1_total_1 : decode cX1_total 1 = .ok (.getfield 28, 3) := by decide +kernel
theorem dX1_total_4 : decode cX1_total 4 = .ok (.ireturn, 1) := by decide +kernel
set_option maxRecDepth 20000 in
theorem ggX1_read_X5_pair : GoodIn wsX1_read wsX5_pair := goodIn_r _ [13, 14, 15, 16, 17, 12, 18, 19, 20, 21, 22, 23, 24, 25, 108, 109, 110, 111] (by decide +kernel) (by decide +kernel)
set_option maxRecDepth 20000 in
theorem gX1_read_X5_pair : GoodIn wsX1_read (wsV RX1 38 RX5 yX5_pair wsX5_pair) := goodIn_app (goodIn_of _ (by decide +kernel)) ggX1_read_X5_pair
set_option maxRecDepth 20000 in
theorem ggX1_read_X5_place : GoodIn wsX1_read wsX5_place := goodIn_r _ [29, 19, 108, 109, 110, 111] (by decide +kernel) (by decide +kernel)
set_option maxRecDepth 20000 in
theorem gX1_read_X5_place : GoodIn wsX1_read (wsV RX1 49 RX5 yX5_place wsX5_place) := goodIn_app (goodIn_of _ (by decide +kernel)) ggX1_read_X5_place
set_option maxRecDepth 20000 in
theorem ggX1_read_X5_stopped : GoodIn wsX1_read wsX5_stopped := goodIn_r _ [33, 14, 108, 109, 110, 111] (by decide +kernel) (by decide +kernel)
set_option maxRecDepth 20000 in
theorem gX1_read_X5_stopped : GoodIn wsX1_read (wsV RX1 53 RX5 yX5_stopped wsX5_stopped) := goodIn_app (goodIn_of _ (by decide +kernel)) ggX1_read_X5_stopped
set_option maxRecDepth 20000 in
theorem ggX1_read_X1_readInstruction : GoodIn wsX1_read wsX1_readInstruction := goodIn_r _ [38, 26, 27, 28, 12, 29, 19, 39, 16, 17, 18, 14, 20, 21, 22, 23, 24, 25, 30, 31, 32, 33, 40, 41, 42, 43, 44, 45, 46, 47, 48, 49, 50, 51, 52, 53, 54, 55, 56, 57, 58, 59, 60, 61, 62, 37, 63, 64, 65, 66, 67, 68, 69, 70, 71, 72, 73, 74, 75, 76, 77, 78, 79, 80, 81, 82, 83, 84, 85, 86, 87, 88, 89, 90, 91, 92, 93, 94, 95, 96, 97, 98, 99, 100, 101, 102, 108, 109, 110, 111, 103, 104, 105, 106, 107, 112, 113, 114, 115, 116, 117, 118] (by decide +kernel) (by decide +kernel)
set_option maxRecDepth 20000 in
theorem gX1_read_X1_readInstruction : GoodIn wsX1_read (wsV RX1 57 RX1 yX1_readInstruction wsX1_readInstruction) := goodIn_app (goodIn_of _ (by decide +kernel)) ggX1_read_X1_readInstruction
theorem dX1_read_0 : decode cX1_read 0 = .ok (.aload_n 1, 1) := by decide +kernel
theorem dX1_read_1 : decode cX1_read 1 = .ok (.iconst 1, 1) := by decide +kernel
theorem dX1_read_2 : decode cX1_read 2 = .ok (.sipush 1000, 3) := by decide +kernel
theorem dX1_read_5 : decode cX1_read 5 = .ok (.invokevirtual 38, 3) := by decide +kernel
theorem dX1_read_8 : decode cX1_read 8 = .ok (.iconst 0, 1) := by decide +kernel
theorem dX1_read_9 : decode cX1_read 9 = .ok (.invokestatic 44, 3) := by decide +kernel
theorem dX1_read_12 : decode cX1_read 12 = .ok (.istore 5, 2) := by decide +kernel
theorem dX1_read_14 : decode cX1_read 14 = .ok (.aload_n 1, 1) := by decide +kernel
theorem dX1_read_15 : decode cX1_read 15 = .ok (.invokevirtual 49, 3) := by decide +kernel
theorem dX1_read_18 : decode cX1_read 18 = .ok (.istore 6, 2) := by decide +kernel
theorem dX1_read_20 : decode cX1_read 20 = .ok (.iconst 0, 1) := by decide +kernel
theorem dX1_read_21 : decode cX1_read 21 = .ok (.istore 7, 2) := by decide +kernel
theorem dX1_read_23 : decode cX1_read 23 = .ok (.iconst 0, 1) := by decide +kernel
theorem dX1_read_24 : decode cX1_read 24 = .ok (.istore 8, 2) := by decide +kernel
theorem dX1_read_26 : decode cX1_read 26 = .ok (.iload 8, 2) := by decide +kernel
theorem dX1_read_28 : decode cX1_read 28 = .ok (.iload 5, 2) := by decide +kernel
theorem dX1_read_30 : decode cX1_read 30 = .ok (.if_icmp .ge 44, 3) := by decide +kernel
theorem dX1_read_33 : decode cX1_read 33 = .ok (.aload_n 1, 1) := by decide +kernel
theorem dX1_read_34 : decode cX1_read 34 = .ok (.invokevirtual 49, 3) := by decide +kernel
theorem dX1_read_37 : decode cX1_read 37 = .ok (.iload 6, 2) := by decide +kernel
theorem dX1_read_39 : decode cX1_read 39 = .ok (.iload 5, 2) := by decide +kernel
theorem dX1_read_41 : decode cX1_read 41 = .ok (.iadd, 1) := by decide +kernel
theorem dX1_read_42 : decode cX1_read 42 = .ok (.if_icmp .ge 32, 3) := by decide +kernel
theorem dX1_read_45 : decode cX1_read 45 = .ok (.aload_n 1, 1) := by decide +kernel
theorem dX1_read_46 : decode cX1_read 46 = .ok (.invokevirtual 53, 3) := by decide +kernel
theorem dX1_read_49 : decode cX1_read 49 = .ok (.ifCond .ne 25, 3) := by decide +kernel
theorem dX1_read_52 : decode cX1_read 52 = .ok (.aload_n 0, 1) := by decide +kernel
theorem dX1_read_53 : decode cX1_read 53 = .ok (.aload_n 1, 1) := by decide +kernel
theorem dX1_read_54 : decode cX1_read 54 = .ok (.aload_n 2, 1) := by decide +kernel
theorem dX1_read_55 : decode cX1_read 55 = .ok (.iload 4, 2) := by decide +kernel
theorem dX1_read_57 : decode cX1_read 57 = .ok (.iload 6, 2) := by decide +kernel
theorem dX1_read_59 : decode cX1_read 59 = .ok (.iload 5, 2) := by decide +kernel
theorem dX1_read_61 : decode cX1_read 61 = .ok (.iadd, 1) := by decide +kernel
theorem dX1_read_62 : decode cX1_read 62 = .ok (.invokevirtual 57, 3) := by decide +kernel
theorem dX1_read_65 : decode cX1_read 65 = .ok (.iinc 7 1, 3) := by decide +kernel
theorem dX1_read_68 : decode cX1_read 68 = .ok (.iinc 8 1, 3) := by decide +kernel
theorem dX1_read_71 : decode cX1_read 71 = .ok (.goto (-45), 3) := by decide +kernel
theorem dX1_read_74 : decode cX1_read 74 = .ok (.aload_n 0, 1) := by decide +kernel
theorem dX1_read_75 : decode cX1_read 75 = .ok (.getfield 11, 3) := by decide +kernel
theorem dX1_read_78 : decode cX1_read 78 = .ok (.iload_n 3, 1) := by decide +kernel
theorem dX1_read_79 : decode cX1_read 79 = .ok (.iload 6, 2) := by decide +kernel
theorem dX1_read_81 : decode cX1_read 81 = .ok (.iastore, 1) := by decide +kernel
theorem dX1_read_82 : decode cX1_read 82 = .ok (.aload_n 0, 1) := by decide +kernel
theorem dX1_read_83 : decode cX1_read 83 = .ok (.getfield 17, 3) := by decide +kernel
theorem dX1_read_86 : decode cX1_read 86 = .ok (.iload_n 3, 1) := by decide +kernel
theorem dX1_read_87 : decode cX1_read 87 = .ok (.iload 5, 2) := by decide +kernel
theorem dX1_read_89 : decode cX1_read 89 = .ok (.iastore, 1) := by decide +kernel
theorem dX1_read_90 : decode cX1_read 90 = .ok (.aload_n 0, 1) := by decide +kernel
theorem dX1_read_91 : decode cX1_read 91 = .ok (.getfield 20, 3) := by decide +kernel
theorem dX1_read_94 : decode cX1_read 94 = .ok (.iload_n 3, 1) := by decide +kernel
theorem dX1_read_95 : decode cX1_read 95 = .ok (.iload 7, 2) := by decide +kernel
theorem dX1_read_97 : decode cX1_read 97 = .ok (.iastore, 1) := by decide +kernel
theorem dX1_read_98 : decode cX1_read 98 = .ok (.aload_n 0, 1) := by decide +kernel
theorem dX1_read_99 : decode cX1_read 99 = .ok (.dup, 1) := by decide +kernel
theorem dX1_read_100 : decode cX1_read 100 = .ok (.getfield 28, 3) := by decide +kernel
theorem dX1_read_103 : decode cX1_read 103 = .ok (.iload 7, 2) := by decide +kernel
theorem dX1_read_105 : decode cX1_read 105 = .ok (.iadd, 1) := by decide +kernel
theorem dX1_read_106 : decode cX1_read 106 = .ok (.putfield 28, 3) := by decide +kernel
theorem dX1_read_109 : decode cX1_read 109 = .ok (.return_, 1) := by decide +kernel
set_option maxRecDepth 20000 in
theorem ggX1_readInstruction_X5_place : GoodIn wsX1_readInstruction wsX5_place := goodIn_r _ [5, 6, 86, 87, 88, 89] (by decide +kernel) (by decide +kernel)
set_option maxRecDepth 20000 in
theorem gX1_readInstruction_X5_place : GoodIn wsX1_readInstruction (wsV RX1 49 RX5 yX5_place wsX5_place) := goodIn_app (goodIn_of _ (by decide +kernel)) ggX1_readInstruction_X5_place
set_option maxRecDepth 20000 in
theorem ggX1_readInstruction_X5_number : GoodIn wsX1_readInstruction wsX5_number := goodIn_r _ [10, 6, 11, 12, 13, 14, 4, 15, 16, 17, 86, 87, 88, 89] (by decide +kernel) (by decide +kernel)
set_option maxRecDepth 20000 in
theorem gX1_readInstruction_X5_number : GoodIn wsX1_readInstruction (wsV RX1 63 RX5 yX5_number wsX5_number) := goodIn_app (goodIn_of _ (by decide +kernel)) ggX1_readInstruction_X5_number
set_option maxRecDepth 20000 in
theorem ggX1_readInstruction_X5_stopped : GoodIn wsX1_readInstruction wsX5_stopped := goodIn_r _ [21, 11, 86, 87, 88, 89] (by decide +kernel) (by decide +kernel)
set_option maxRecDepth 20000 in
theorem gX1_readInstruction_X5_stopped : GoodIn wsX1_readInstruction (wsV RX1 53 RX5 yX5_stopped wsX5_stopped) := goodIn_app (goodIn_of _ (by decide +kernel)) ggX1_readInstruction_X5_stopped
set_option maxRecDepth 20000 in
theorem ggX1_readInstruction_X4_length : GoodIn wsX1_readInstruction wsX4_length := goodIn_r _ [25, 26, 27, 24, 28, 29, 30, 31, 32, 33, 34, 35, 36, 37] (by decide +kernel) (by decide +kernel)
set_option maxRecDepth 20000 in
theorem gX1_readInstruction_X4_length : GoodIn wsX1_readInstruction (va_wsS RX1 66 yX4_length wsX4_length) := goodIn_app (goodIn_of _ (by decide +kernel)) ggX1_readInstruction_X4_length
set_option maxRecDepth 20000 in
theorem ggX1_readInstruction_X5_stopAt : GoodIn wsX1_readInstruction wsX5_stopAt := goodIn_r _ [41, 6, 11, 86, 87, 88, 89] (by decide +kernel) (by decide +kernel)
set_option maxRecDepth 20000 in
theorem gX1_readInstruction_X5_stopAt : GoodIn wsX1_readInstruction (wsV RX1 70 RX5 yX5_stopAt wsX5_stopAt) := goodIn_app (goodIn_of _ (by decide +kernel)) ggX1_readInstruction_X5_stopAt
set_option maxRecDepth 20000 in
theorem ggX1_readInstruction_X1_markBegin : GoodIn wsX1_readInstruction wsX1_markBegin := goodIn_r _ [46, 47, 90, 91, 92, 93, 94] (by decide +kernel) (by decide +kernel)
set_option maxRecDepth 20000 in
theorem gX1_readInstruction_X1_markBegin : GoodIn wsX1_readInstruction (wsV RX1 74 RX1 yX1_markBegin wsX1_markBegin) := goodIn_app (goodIn_of _ (by decide +kernel)) ggX1_readInstruction_X1_markBegin
set_option maxRecDepth 20000 in
theorem ggX1_readInstruction_X4_first : GoodIn wsX1_readInstruction wsX4_first := goodIn_r _ [28, 29] (by decide +kernel) (by decide +kernel)
set_option maxRecDepth 20000 in
theorem gX1_readInstruction_X4_first : GoodIn wsX1_readInstruction (va_wsS RX1 77 yX4_first wsX4_first) := goodIn_app (goodIn_of _ (by decide +kernel)) ggX1_readInstruction_X4_first
set_option maxRecDepth 20000 in
theorem ggX1_readInstruction_X1_readOperand : GoodIn wsX1_readInstruction wsX1_readOperand := goodIn_r _ [51, 7, 8, 9, 4, 10, 6, 11, 12, 13, 14, 15, 16, 17, 52, 53, 54, 55, 56, 57, 58, 31, 24, 32, 33, 59, 60, 61, 62, 63, 39, 40, 41, 86, 87, 88, 89, 95, 96, 97, 98, 99, 100, 101] (by decide +kernel) (by decide +kernel)
set_option maxRecDepth 20000 in
theorem gX1_readInstruction_X1_readOperand : GoodIn wsX1_readInstruction (va_wsS RX1 80 yX1_readOperand wsX1_readOperand) := goodIn_app (goodIn_of _ (by decide +kernel)) ggX1_readInstruction_X1_readOperand
set_option maxRecDepth 20000 in
theorem ggX1_readInstruction_X4_second : GoodIn wsX1_readInstruction wsX4_second := goodIn_r _ [36, 37] (by decide +kernel) (by decide +kernel)
set_option maxRecDepth 20000 in
theorem gX1_readInstruction_X4_second : GoodIn wsX1_readInstruction (va_wsS RX1 84 yX4_second wsX4_second) := goodIn_app (goodIn_of _ (by decide +kernel)) ggX1_readInstruction_X4_second
set_option maxRecDepth 20000 in
theorem ggX1_readInstruction_X0_fields : GoodIn wsX1_readInstruction wsX0_fields := goodIn_r _ [68, 69, 70, 71, 72, 55, 73, 57, 95, 96, 97, 98, 99, 100, 101] (by decide +kernel) (by decide +kernel)
set_option maxRecDepth 20000 in
theorem gX1_readInstruction_X0_fields : GoodIn wsX1_readInstruction (wsV RX1 87 RX0 yX0_fields wsX0_fields) := goodIn_app (goodIn_of _ (by decide +kernel)) ggX1_readInstruction_X0_fields
set_option maxRecDepth 20000 in
theorem ggX1_readInstruction_X1_readSlot : GoodIn wsX1_readInstruction wsX1_readSlot := goodIn_r _ [76, 77, 78, 79, 4, 80, 6, 12, 13, 14, 15, 16, 17, 81, 82, 83, 55, 84, 85, 70, 71, 72, 73, 57, 1, 2, 3, 5, 38, 39, 40, 41, 11, 7, 8, 9, 10, 86, 87, 88, 89, 95, 96, 97, 98, 99, 100, 101] (by decide +kernel) (by decide +kernel)
set_option maxRecDepth 20000 in
theorem gX1_readInstruction_X1_readSlot : GoodIn wsX1_readInstruction (va_wsS RX1 92 yX1_readSlot wsX1_readSlot) := goodIn_app (goodIn_of _ (by decide +kernel)) ggX1_readInstruction_X1_readSlot
theorem dX1_readInstruction_0 : decode cX1_readInstruction 0 = .ok (.aload_n 1, 1) := by decide +kernel
theorem dX1_readInstruction_1 : decode cX1_readInstruction 1 = .ok (.invokevirtual 49, 3) := by decide +kernel
theorem dX1_readInstruction_4 : decode cX1_readInstruction 4 = .ok (.istore 5, 2) := by decide +kernel
theorem dX1_readInstruction_6 : decode cX1_readInstruction 6 = .ok (.aload_n 1, 1) := by decide +kernel
theorem dX1_readInstruction_7 : decode cX1_readInstruction 7 = .ok (.iconst 0, 1) := by decide +kernel
theorem dX1_readInstruction_8 : decode cX1_readInstruction 8 = .ok (.bipush 41, 2) := by decide +kernel
theorem dX1_readInstruction_10 : decode cX1_readInstruction 10 = .ok (.invokevirtual 63, 3) := by decide +kernel
theorem dX1_readInstruction_13 : decode cX1_readInstruction 13 = .ok (.istore 6, 2) := by decide +kernel
theorem dX1_readInstruction_15 : decode cX1_readInstruction 15 = .ok (.aload_n 1, 1) := by decide +kernel
theorem dX1_readInstruction_16 : decode cX1_readInstruction 16 = .ok (.invokevirtual 53, 3) := by decide +kernel
theorem dX1_readInstruction_19 : decode cX1_readInstruction 19 = .ok (.ifCond .eq 4, 3) := by decide +kernel
theorem dX1_readInstruction_22 : decode cX1_readInstruction 22 = .ok (.return_, 1) := by decide +kernel
theorem dX1_readInstruction_23 : decode cX1_readInstruction 23 = .ok (.iload 6, 2) := by decide +kernel
theorem dX1_readInstruction_25 : decode cX1_readInstruction 25 = .ok (.invokestatic 66, 3) := by decide +kernel
theorem dX1_readInstruction_28 : decode cX1_readInstruction 28 = .ok (.iload 4, 2) := by decide +kernel
theorem dX1_readInstruction_30 : decode cX1_readInstruction 30 = .ok (.iload 5, 2) := by decide +kernel
theorem dX1_readInstruction_32 : decode cX1_readInstruction 32 = .ok (.isub, 1) := by decide +kernel
theorem dX1_readInstruction_33 : decode cX1_readInstruction 33 = .ok (.if_icmp .le 10, 3) := by decide +kernel
theorem dX1_readInstruction_36 : decode cX1_readInstruction 36 = .ok (.aload_n 1, 1) := by decide +kernel
theorem dX1_readInstruction_37 : decode cX1_readInstruction 37 = .ok (.iload 5, 2) := by decide +kernel
theorem dX1_readInstruction_39 : decode cX1_readInstruction 39 = .ok (.invokevirtual 70, 3) := by decide +kernel
theorem dX1_readInstruction_42 : decode cX1_readInstruction 42 = .ok (.return_, 1) := by decide +kernel
theorem dX1_readInstruction_43 : decode cX1_readInstruction 43 = .ok (.aload_n 0, 1) := by decide +kernel
theorem dX1_readInstruction_44 : decode cX1_readInstruction 44 = .ok (.iload 5, 2) := by decide +kernel
theorem dX1_readInstruction_46 : decode cX1_readInstruction 46 = .ok (.invokevirtual 74, 3) := by decide +kernel
theorem dX1_readInstruction_49 : decode cX1_readInstruction 49 = .ok (.aload_n 1, 1) := by decide +kernel
theorem dX1_readInstruction_50 : decode cX1_readInstruction 50 = .ok (.aload_n 2, 1) := by decide +kernel
theorem dX1_readInstruction_51 : decode cX1_readInstruction 51 = .ok (.iload 6, 2) := by decide +kernel
theorem dX1_readInstruction_53 : decode cX1_readInstruction 53 = .ok (.invokestatic 77, 3) := by decide +kernel
theorem dX1_readInstruction_56 : decode cX1_readInstruction 56 = .ok (.iload_n 3, 1) := by decide +kernel
theorem dX1_readInstruction_57 : decode cX1_readInstruction 57 = .ok (.invokestatic 80, 3) := by decide +kernel
theorem dX1_readInstruction_60 : decode cX1_readInstruction 60 = .ok (.istore 7, 2) := by decide +kernel
theorem dX1_readInstruction_62 : decode cX1_readInstruction 62 = .ok (.iload 6, 2) := by decide +kernel
theorem dX1_readInstruction_64 : decode cX1_readInstruction 64 = .ok (.invokestatic 84, 3) := by decide +kernel
theorem dX1_readInstruction_67 : decode cX1_readInstruction 67 = .ok (.istore 8, 2) := by decide +kernel
theorem dX1_readInstruction_69 : decode cX1_readInstruction 69 = .ok (.iload 8, 2) := by decide +kernel
theorem dX1_readInstruction_71 : decode cX1_readInstruction 71 = .ok (.bipush 6, 2) := by decide +kernel
theorem dX1_readInstruction_73 : decode cX1_readInstruction 73 = .ok (.if_icmp .ne 20, 3) := by decide +kernel
theorem dX1_readInstruction_76 : decode cX1_readInstruction 76 = .ok (.aload_n 1, 1) := by decide +kernel
theorem dX1_readInstruction_77 : decode cX1_readInstruction 77 = .ok (.iconst 0, 1) := by decide +kernel
theorem dX1_readInstruction_78 : decode cX1_readInstruction 78 = .ok (.aload_n 2, 1) := by decide +kernel
theorem dX1_readInstruction_79 : decode cX1_readInstruction 79 = .ok (.iload 7, 2) := by decide +kernel
theorem dX1_readInstruction_81 : decode cX1_readInstruction 81 = .ok (.invokevirtual 87, 3) := by decide +kernel
theorem dX1_readInstruction_84 : decode cX1_readInstruction 84 = .ok (.iconst 1, 1) := by decide +kernel
theorem dX1_readInstruction_85 : decode cX1_readInstruction 85 = .ok (.isub, 1) := by decide +kernel
theorem dX1_readInstruction_86 : decode cX1_readInstruction 86 = .ok (.invokevirtual 63, 3) := by decide +kernel
theorem dX1_readInstruction_89 : decode cX1_readInstruction 89 = .ok (.pop, 1) := by decide +kernel
theorem dX1_readInstruction_90 : decode cX1_readInstruction 90 = .ok (.goto 29, 3) := by decide +kernel
theorem dX1_readInstruction_93 : decode cX1_readInstruction 93 = .ok (.iload 8, 2) := by decide +kernel
theorem dX1_readInstruction_95 : decode cX1_readInstruction 95 = .ok (.bipush 9, 2) := by decide +kernel
theorem dX1_readInstruction_97 : decode cX1_readInstruction 97 = .ok (.if_icmp .ne 13, 3) := by decide +kernel
theorem dX1_readInstruction_100 : decode cX1_readInstruction 100 = .ok (.aload_n 1, 1) := by decide +kernel
theorem dX1_readInstruction_101 : decode cX1_readInstruction 101 = .ok (.aload_n 2, 1) := by decide +kernel
theorem dX1_readInstruction_102 : decode cX1_readInstruction 102 = .ok (.iload 7, 2) := by decide +kernel
theorem dX1_readInstruction_104 : decode cX1_readInstruction 104 = .ok (.invokestatic 92, 3) := by decide +kernel
theorem dX1_readInstruction_107 : decode cX1_readInstruction 107 = .ok (.goto 12, 3) := by decide +kernel
theorem dX1_readInstruction_110 : decode cX1_readInstruction 110 = .ok (.aload_n 1, 1) := by decide +kernel
theorem dX1_readInstruction_111 : decode cX1_readInstruction 111 = .ok (.aload_n 2, 1) := by decide +kernel
theorem dX1_readInstruction_112 : decode cX1_readInstruction 112 = .ok (.iload 8, 2) := by decide +kernel
theorem dX1_readInstruction_114 : decode cX1_readInstruction 114 = .ok (.iload_n 3, 1) := by decide +kernel
theorem dX1_readInstruction_115 : decode cX1_readInstruction 115 = .ok (.invokestatic 80, 3) := by decide +kernel
theorem dX1_readInstruction_118 : decode cX1_readInstruction 118 = .ok (.pop, 1) := by decide +kernel
theorem dX1_readInstruction_119 : decode cX1_readInstruction 119 = .ok (.return_, 1) := by decide +kernel
set_option maxRecDepth 20000 in
theorem ggX1_readOperand_X5_number : GoodIn wsX1_readOperand wsX5_number := goodIn_r _ [5, 6, 7, 8, 9, 10, 4, 11, 12, 13, 33, 34, 35, 36] (by decide +kernel) (by decide +kernel)
set_option maxRecDepth 20000 in
theorem gX1_readOperand_X5_number : GoodIn wsX1_readOperand (wsV RX1 63 RX5 yX5_number wsX5_number) := goodIn_app (goodIn_of _ (by decide +kernel)) ggX1_readOperand_X5_number
set_option maxRecDepth 20000 in
theorem ggX1_readOperand_X0_size : GoodIn wsX1_readOperand wsX0_size := goodIn_r _ [18, 19, 37, 38, 39, 40, 41, 42, 43] (by decide +kernel) (by decide +kernel)
set_option maxRecDepth 20000 in
theorem gX1_readOperand_X0_size : GoodIn wsX1_readOperand (wsV RX1 96 RX0 yX0_size wsX0_size) := goodIn_app (goodIn_of _ (by decide +kernel)) ggX1_readOperand_X0_size
set_option maxRecDepth 20000 in
theorem ggX1_readOperand_X4_width : GoodIn wsX1_readOperand wsX4_width := goodIn_r _ [23, 24] (by decide +kernel) (by decide +kernel)
set_option maxRecDepth 20000 in
theorem gX1_readOperand_X4_width : GoodIn wsX1_readOperand (va_wsS RX1 99 yX4_width wsX4_width) := goodIn_app (goodIn_of _ (by decide +kernel)) ggX1_readOperand_X4_width
set_option maxRecDepth 20000 in
theorem ggX1_readOperand_X5_skip : GoodIn wsX1_readOperand wsX5_skip := goodIn_r _ [28, 7, 12, 6, 29, 30, 31, 4, 32, 33, 34, 35, 36] (by decide +kernel) (by decide +kernel)
set_option maxRecDepth 20000 in
theorem gX1_readOperand_X5_skip : GoodIn wsX1_readOperand (wsV RX1 102 RX5 yX5_skip wsX5_skip) := goodIn_app (goodIn_of _ (by decide +kernel)) ggX1_readOperand_X5_skip
theorem dX1_readOperand_0 : decode cX1_readOperand 0 = .ok (.iload_n 2, 1) := by decide +kernel
theorem dX1_readOperand_1 : decode cX1_readOperand 1 = .ok (.tableswitch 77 2 7 #[39, 48, 77, 55, 77, 67], 39) := by decide +kernel
theorem dX1_readOperand_40 : decode cX1_readOperand 40 = .ok (.aload_n 0, 1) := by decide +kernel
theorem dX1_readOperand_41 : decode cX1_readOperand 41 = .ok (.iconst 0, 1) := by decide +kernel
theorem dX1_readOperand_42 : decode cX1_readOperand 42 = .ok (.iload_n 3, 1) := by decide +kernel
theorem dX1_readOperand_43 : decode cX1_readOperand 43 = .ok (.iconst 1, 1) := by decide +kernel
theorem dX1_readOperand_44 : decode cX1_readOperand 44 = .ok (.isub, 1) := by decide +kernel
theorem dX1_readOperand_45 : decode cX1_readOperand 45 = .ok (.invokevirtual 63, 3) := by decide +kernel
theorem dX1_readOperand_48 : decode cX1_readOperand 48 = .ok (.ireturn, 1) := by decide +kernel
theorem dX1_readOperand_49 : decode cX1_readOperand 49 = .ok (.aload_n 0, 1) := by decide +kernel
theorem dX1_readOperand_50 : decode cX1_readOperand 50 = .ok (.iconst 0, 1) := by decide +kernel
theorem dX1_readOperand_51 : decode cX1_readOperand 51 = .ok (.iconst 5, 1) := by decide +kernel
theorem dX1_readOperand_52 : decode cX1_readOperand 52 = .ok (.invokevirtual 63, 3) := by decide +kernel
theorem dX1_readOperand_55 : decode cX1_readOperand 55 = .ok (.ireturn, 1) := by decide +kernel
theorem dX1_readOperand_56 : decode cX1_readOperand 56 = .ok (.aload_n 0, 1) := by decide +kernel
theorem dX1_readOperand_57 : decode cX1_readOperand 57 = .ok (.iconst 0, 1) := by decide +kernel
theorem dX1_readOperand_58 : decode cX1_readOperand 58 = .ok (.aload_n 1, 1) := by decide +kernel
theorem dX1_readOperand_59 : decode cX1_readOperand 59 = .ok (.invokevirtual 96, 3) := by decide +kernel
theorem dX1_readOperand_62 : decode cX1_readOperand 62 = .ok (.iconst 1, 1) := by decide +kernel
theorem dX1_readOperand_63 : decode cX1_readOperand 63 = .ok (.isub, 1) := by decide +kernel
theorem dX1_readOperand_64 : decode cX1_readOperand 64 = .ok (.invokevirtual 63, 3) := by decide +kernel
theorem dX1_readOperand_67 : decode cX1_readOperand 67 = .ok (.ireturn, 1) := by decide +kernel
theorem dX1_readOperand_68 : decode cX1_readOperand 68 = .ok (.aload_n 0, 1) := by decide +kernel
theorem dX1_readOperand_69 : decode cX1_readOperand 69 = .ok (.iconst 0, 1) := by decide +kernel
theorem dX1_readOperand_70 : decode cX1_readOperand 70 = .ok (.aload_n 1, 1) := by decide +kernel
theorem dX1_readOperand_71 : decode cX1_readOperand 71 = .ok (.invokevirtual 96, 3) := by decide +kernel
theorem dX1_readOperand_74 : decode cX1_readOperand 74 = .ok (.invokevirtual 63, 3) := by decide +kernel
theorem dX1_readOperand_77 : decode cX1_readOperand 77 = .ok (.ireturn, 1) := by decide +kernel
theorem dX1_readOperand_78 : decode cX1_readOperand 78 = .ok (.aload_n 0, 1) := by decide +kernel
theorem dX1_readOperand_79 : decode cX1_readOperand 79 = .ok (.iload_n 2, 1) := by decide +kernel
theorem dX1_readOperand_80 : decode cX1_readOperand 80 = .ok (.invokestatic 99, 3) := by decide +kernel
theorem dX1_readOperand_83 : decode cX1_readOperand 83 = .ok (.invokevirtual 102, 3) := by decide +kernel
theorem dX1_readOperand_86 : decode cX1_readOperand 86 = .ok (.iconst (-1), 1) := by decide +kernel
theorem dX1_readOperand_87 : decode cX1_readOperand 87 = .ok (.ireturn, 1) := by decide +kernel
set_option maxRecDepth 20000 in
theorem ggX1_readSlot_X5_next : GoodIn wsX1_readSlot wsX5_next := goodIn_r _ [5, 6, 7, 8, 9, 4, 10, 11, 12, 37, 38, 39, 40] (by decide +kernel) (by decide +kernel)
set_option maxRecDepth 20000 in
theorem gX1_readSlot_X5_next : GoodIn wsX1_readSlot (wsV RX1 105 RX5 yX5_next wsX5_next) := goodIn_app (goodIn_of _ (by decide +kernel)) ggX1_readSlot_X5_next
set_option maxRecDepth 20000 in
theorem ggX1_readSlot_X0_slotMethod : GoodIn wsX1_readSlot wsX0_slotMethod := goodIn_r _ [17, 18, 19, 20, 21, 16, 22, 23, 41, 42, 43, 44, 45, 46, 47] (by decide +kernel) (by decide +kernel)
set_option maxRecDepth 20000 in
theorem gX1_readSlot_X0_slotMethod : GoodIn wsX1_readSlot (wsV RX1 108 RX0 yX0_slotMethod wsX0_slotMethod) := goodIn_app (goodIn_of _ (by decide +kernel)) ggX1_readSlot_X0_slotMethod
set_option maxRecDepth 20000 in
theorem ggX1_readSlot_X5_place : GoodIn wsX1_readSlot wsX5_place := goodIn_r _ [27, 6, 37, 38, 39, 40] (by decide +kernel) (by decide +kernel)
set_option maxRecDepth 20000 in
theorem gX1_readSlot_X5_place : GoodIn wsX1_readSlot (wsV RX1 49 RX5 yX5_place wsX5_place) := goodIn_app (goodIn_of _ (by decide +kernel)) ggX1_readSlot_X5_place
set_option maxRecDepth 20000 in
theorem ggX1_readSlot_X5_stopAt : GoodIn wsX1_readSlot wsX5_stopAt := goodIn_r _ [31, 6, 32, 37, 38, 39, 40] (by decide +kernel) (by decide +kernel)
set_option maxRecDepth 20000 in
theorem gX1_readSlot_X5_stopAt : GoodIn wsX1_readSlot (wsV RX1 70 RX5 yX5_stopAt wsX5_stopAt) := goodIn_app (goodIn_of _ (by decide +kernel)) ggX1_readSlot_X5_stopAt
set_option maxRecDepth 20000 in
theorem ggX1_readSlot_X5_number : GoodIn wsX1_readSlot wsX5_number := goodIn_r _ [36, 6, 32, 7, 8, 9, 4, 10, 11, 12, 37, 38, 39, 40] (by decide +kernel) (by decide +kernel)
set_option maxRecDepth 20000 in
theorem gX1_readSlot_X5_number : GoodIn wsX1_readSlot (wsV RX1 63 RX5 yX5_number wsX5_number) := goodIn_app (goodIn_of _ (by decide +kernel)) ggX1_readSlot_X5_number
theorem dX1_readSlot_0 : decode cX1_readSlot 0 = .ok (.aload_n 0, 1) := by decide +kernel
theorem dX1_readSlot_1 : decode cX1_readSlot 1 = .ok (.invokevirtual 105, 3) := by decide +kernel
theorem dX1_readSlot_4 : decode cX1_readSlot 4 = .ok (.istore_n 3, 1) := by decide +kernel
theorem dX1_readSlot_5 : decode cX1_readSlot 5 = .ok (.aload_n 1, 1) := by decide +kernel
theorem dX1_readSlot_6 : decode cX1_readSlot 6 = .ok (.iload_n 2, 1) := by decide +kernel
theorem dX1_readSlot_7 : decode cX1_readSlot 7 = .ok (.iload_n 3, 1) := by decide +kernel
theorem dX1_readSlot_8 : decode cX1_readSlot 8 = .ok (.invokevirtual 108, 3) := by decide +kernel
theorem dX1_readSlot_11 : decode cX1_readSlot 11 = .ok (.iconst (-1), 1) := by decide +kernel
theorem dX1_readSlot_12 : decode cX1_readSlot 12 = .ok (.if_icmp .ne 12, 3) := by decide +kernel
theorem dX1_readSlot_15 : decode cX1_readSlot 15 = .ok (.aload_n 0, 1) := by decide +kernel
theorem dX1_readSlot_16 : decode cX1_readSlot 16 = .ok (.aload_n 0, 1) := by decide +kernel
theorem dX1_readSlot_17 : decode cX1_readSlot 17 = .ok (.invokevirtual 49, 3) := by decide +kernel
theorem dX1_readSlot_20 : decode cX1_readSlot 20 = .ok (.invokevirtual 70, 3) := by decide +kernel
theorem dX1_readSlot_23 : decode cX1_readSlot 23 = .ok (.return_, 1) := by decide +kernel
theorem dX1_readSlot_24 : decode cX1_readSlot 24 = .ok (.aload_n 0, 1) := by decide +kernel
theorem dX1_readSlot_25 : decode cX1_readSlot 25 = .ok (.iload_n 3, 1) := by decide +kernel
theorem dX1_readSlot_26 : decode cX1_readSlot 26 = .ok (.iload_n 3, 1) := by decide +kernel
theorem dX1_readSlot_27 : decode cX1_readSlot 27 = .ok (.invokevirtual 63, 3) := by decide +kernel
theorem dX1_readSlot_30 : decode cX1_readSlot 30 = .ok (.pop, 1) := by decide +kernel
theorem dX1_readSlot_31 : decode cX1_readSlot 31 = .ok (.return_, 1) := by decide +kernel
theorem dX1_markBegin_0 : decode cX1_markBegin 0 = .ok (.iload_n 1, 1) := by decide +kernel
theorem dX1_markBegin_1 : decode cX1_markBegin 1 = .ok (.iconst 5, 1) := by decide +kernel
theorem dX1_markBegin_2 : decode cX1_markBegin 2 = .ok (.ishr, 1) := by decide +kernel
theorem dX1_markBegin_3 : decode cX1_markBegin 3 = .ok (.istore_n 2, 1) := by decide +kernel
theorem dX1_markBegin_4 : decode cX1_markBegin 4 = .ok (.iload_n 2, 1) := by decide +kernel
theorem dX1_markBegin_5 : decode cX1_markBegin 5 = .ok (.ifCond .lt 27, 3) := by decide +kernel
theorem dX1_markBegin_8 : decode cX1_markBegin 8 = .ok (.iload_n 2, 1) := by decide +kernel
theorem dX1_markBegin_9 : decode cX1_markBegin 9 = .ok (.aload_n 0, 1) := by decide +kernel
theorem dX1_markBegin_10 : decode cX1_markBegin 10 = .ok (.getfield 25, 3) := by decide +kernel
theorem dX1_markBegin_13 : decode cX1_markBegin 13 = .ok (.arraylength, 1) := by decide +kernel
theorem dX1_markBegin_14 : decode cX1_markBegin 14 = .ok (.if_icmp .ge 18, 3) := by decide +kernel
theorem dX1_markBegin_17 : decode cX1_markBegin 17 = .ok (.aload_n 0, 1) := by decide +kernel
theorem dX1_markBegin_18 : decode cX1_markBegin 18 = .ok (.getfield 25, 3) := by decide +kernel
theorem dX1_markBegin_21 : decode cX1_markBegin 21 = .ok (.iload_n 2, 1) := by decide +kernel
theorem dX1_markBegin_22 : decode cX1_markBegin 22 = .ok (.dup2, 1) := by decide +kernel
theorem dX1_markBegin_23 : decode cX1_markBegin 23 = .ok (.iaload, 1) := by decide +kernel
theorem dX1_markBegin_24 : decode cX1_markBegin 24 = .ok (.iconst 1, 1) := by decide +kernel
theorem dX1_markBegin_25 : decode cX1_markBegin 25 = .ok (.iload_n 1, 1) := by decide +kernel
theorem dX1_markBegin_26 : decode cX1_markBegin 26 = .ok (.bipush 31, 2) := by decide +kernel
theorem dX1_markBegin_28 : decode cX1_markBegin 28 = .ok (.iand, 1) := by decide +kernel
theorem dX1_markBegin_29 : decode cX1_markBegin 29 = .ok (.ishl, 1) := by decide +kernel
theorem dX1_markBegin_30 : decode cX1_markBegin 30 = .ok (.ior, 1) := by decide +kernel
theorem dX1_markBegin_31 : decode cX1_markBegin 31 = .ok (.iastore, 1) := by decide +kernel
theorem dX1_markBegin_32 : decode cX1_markBegin 32 = .ok (.return_, 1) := by decide +kernel
set_option maxRecDepth 20000 in
theorem ggX1_beginsAt_X1_length : GoodIn wsX1_beginsAt wsX1_length := goodIn_r _ [7, 8, 9, 10, 11, 12, 13] (by decide +kernel) (by decide +kernel)
set_option maxRecDepth 20000 in
theorem gX1_beginsAt_X1_length : GoodIn wsX1_beginsAt (wsV RX1 111 RX1 yX1_length wsX1_length) := goodIn_app (goodIn_of _ (by decide +kernel)) ggX1_beginsAt_X1_length
theorem dX1_beginsAt_0 : decode cX1_beginsAt 0 = .ok (.iload_n 2, 1) := by decide +kernel
theorem dX1_beginsAt_1 : decode cX1_beginsAt 1 = .ok (.ifCond .lt 12, 3) := by decide +kernel
theorem dX1_beginsAt_4 : decode cX1_beginsAt 4 = .ok (.iload_n 2, 1) := by decide +kernel
theorem dX1_beginsAt_5 : decode cX1_beginsAt 5 = .ok (.aload_n 0, 1) := by decide +kernel
theorem dX1_beginsAt_6 : decode cX1_beginsAt 6 = .ok (.iload_n 1, 1) := by decide +kernel
theorem dX1_beginsAt_7 : decode cX1_beginsAt 7 = .ok (.invokevirtual 111, 3) := by decide +kernel
theorem dX1_beginsAt_10 : decode cX1_beginsAt 10 = .ok (.if_icmp .lt 5, 3) := by decide +kernel
theorem dX1_beginsAt_13 : decode cX1_beginsAt 13 = .ok (.iconst 0, 1) := by decide +kernel
theorem dX1_beginsAt_14 : decode cX1_beginsAt 14 = .ok (.ireturn, 1) := by decide +kernel
theorem dX1_beginsAt_15 : decode cX1_beginsAt 15 = .ok (.aload_n 0, 1) := by decide +kernel
theorem dX1_beginsAt_16 : decode cX1_beginsAt 16 = .ok (.getfield 11, 3) := by decide +kernel
theorem dX1_beginsAt_19 : decode cX1_beginsAt 19 = .ok (.iload_n 1, 1) := by decide +kernel
theorem dX1_beginsAt_20 : decode cX1_beginsAt 20 = .ok (.iaload, 1) := by decide +kernel
theorem dX1_beginsAt_21 : decode cX1_beginsAt 21 = .ok (.iload_n 2, 1) := by decide +kernel
theorem dX1_beginsAt_22 : decode cX1_beginsAt 22 = .ok (.iadd, 1) := by decide +kernel
theorem dX1_beginsAt_23 : decode cX1_beginsAt 23 = .ok (.istore_n 3, 1) := by decide +kernel
theorem dX1_beginsAt_24 : decode cX1_beginsAt 24 = .ok (.iload_n 3, 1) := by decide +kernel
theorem dX1_beginsAt_25 : decode cX1_beginsAt 25 = .ok (.iconst 5, 1) := by decide +kernel
theorem dX1_beginsAt_26 : decode cX1_beginsAt 26 = .ok (.ishr, 1) := by decide +kernel
theorem dX1_beginsAt_27 : decode cX1_beginsAt 27 = .ok (.istore 4, 2) := by decide +kernel
theorem dX1_beginsAt_29 : decode cX1_beginsAt 29 = .ok (.iload 4, 2) := by decide +kernel
theorem dX1_beginsAt_31 : decode cX1_beginsAt 31 = .ok (.ifCond .lt 35, 3) := by decide +kernel
theorem dX1_beginsAt_34 : decode cX1_beginsAt 34 = .ok (.iload 4, 2) := by decide +kernel
theorem dX1_beginsAt_36 : decode cX1_beginsAt 36 = .ok (.aload_n 0, 1) := by decide +kernel
theorem dX1_beginsAt_37 : decode cX1_beginsAt 37 = .ok (.getfield 25, 3) := by decide +kernel
theorem dX1_beginsAt_40 : decode cX1_beginsAt 40 = .ok (.arraylength, 1) := by decide +kernel
theorem dX1_beginsAt_41 : decode cX1_beginsAt 41 = .ok (.if_icmp .ge 25, 3) := by decide +kernel
theorem dX1_beginsAt_44 : decode cX1_beginsAt 44 = .ok (.aload_n 0, 1) := by decide +kernel
theorem dX1_beginsAt_45 : decode cX1_beginsAt 45 = .ok (.getfield 25, 3) := by decide +kernel
theorem dX1_beginsAt_48 : decode cX1_beginsAt 48 = .ok (.iload 4, 2) := by decide +kernel
theorem dX1_beginsAt_50 : decode cX1_beginsAt 50 = .ok (.iaload, 1) := by decide +kernel
theorem dX1_beginsAt_51 : decode cX1_beginsAt 51 = .ok (.iload_n 3, 1) := by decide +kernel
theorem dX1_beginsAt_52 : decode cX1_beginsAt 52 = .ok (.bipush 31, 2) := by decide +kernel
theorem dX1_beginsAt_54 : decode cX1_beginsAt 54 = .ok (.iand, 1) := by decide +kernel
theorem dX1_beginsAt_55 : decode cX1_beginsAt 55 = .ok (.iushr, 1) := by decide +kernel
theorem dX1_beginsAt_56 : decode cX1_beginsAt 56 = .ok (.iconst 1, 1) := by decide +kernel
theorem dX1_beginsAt_57 : decode cX1_beginsAt 57 = .ok (.iand, 1) := by decide +kernel
theorem dX1_beginsAt_58 : decode cX1_beginsAt 58 = .ok (.iconst 1, 1) := by decide +kernel
theorem dX1_beginsAt_59 : decode cX1_beginsAt 59 = .ok (.if_icmp .ne 7, 3) := by decide +kernel
theorem dX1_beginsAt_62 : decode cX1_beginsAt 62 = .ok (.iconst 1, 1) := by decide +kernel
theorem dX1_beginsAt_63 : decode cX1_beginsAt 63 = .ok (.goto 4, 3) := by decide +kernel
theorem dX1_beginsAt_66 : decode cX1_beginsAt 66 = .ok (.iconst 0, 1) := by decide +kernel
theorem dX1_beginsAt_67 : decode cX1_beginsAt 67 = .ok (.ireturn, 1) := by decide +kernel
theorem dX1_length_0 : decode cX1_length 0 = .ok (.iload_n 1, 1) := by decide +kernel
theorem dX1_length_1 : decode cX1_length 1 = .ok (.ifCond .lt 18, 3) := by decide +kernel
theorem dX1_length_4 : decode cX1_length 4 = .ok (.iload_n 1, 1) := by decide +kernel
theorem dX1_length_5 : decode cX1_length 5 = .ok (.bipush 64, 2) := by decide +kernel
theorem dX1_length_7 : decode cX1_length 7 = .ok (.if_icmp .ge 12, 3) := by decide +kernel
theorem dX1_length_10 : decode cX1_length 10 = .ok (.aload_n 0, 1) := by decide +kernel
theorem dX1_length_11 : decode cX1_length 11 = .ok (.getfield 17, 3) := by decide +kernel
theorem dX1_length_14 : decode cX1_length 14 = .ok (.iload_n 1, 1) := by decide +kernel
theorem dX1_length_15 : decode cX1_length 15 = .ok (.iaload, 1) := by decide +kernel
theorem dX1_length_16 : decode cX1_length 16 = .ok (.goto 4, 3) := by decide +kernel
theorem dX1_length_19 : decode cX1_length 19 = .ok (.iconst 0, 1) := by decide +kernel
theorem dX1_length_20 : decode cX1_length 20 = .ok (.ireturn, 1) := by decide +kernel
theorem dX1_size_0 : decode cX1_size 0 = .ok (.iload_n 1, 1) := by decide +kernel
theorem dX1_size_1 : decode cX1_size 1 = .ok (.ifCond .lt 18, 3) := by decide +kernel
theorem dX1_size_4 : decode cX1_size 4 = .ok (.iload_n 1, 1) := by decide +kernel
theorem dX1_size_5 : decode cX1_size 5 = .ok (.bipush 64, 2) := by decide +kernel
theorem dX1_size_7 : decode cX1_size 7 = .ok (.if_icmp .ge 12, 3) := by decide +kernel
theorem dX1_size_10 : decode cX1_size 10 = .ok (.aload_n 0, 1) := by decide +kernel
theorem dX1_size_11 : decode cX1_size 11 = .ok (.getfield 20, 3) := by decide +kernel
theorem dX1_size_14 : decode cX1_size 14 = .ok (.iload_n 1, 1) := by decide +kernel
theorem dX1_size_15 : decode cX1_size 15 = .ok (.iaload, 1) := by decide +kernel
theorem dX1_size_16 : decode cX1_size 16 = .ok (.goto 4, 3) := by decide +kernel
theorem dX1_size_19 : decode cX1_size 19 = .ok (.iconst 0, 1) := by decide +kernel
theorem dX1_size_20 : decode cX1_size 20 = .ok (.ireturn, 1) := by decide +kernel
set_option maxRecDepth 20000 in
theorem ggX1_placeOf_X1_size : GoodIn wsX1_placeOf wsX1_size := goodIn_r _ [6, 7, 31, 32, 33, 34, 35] (by decide +kernel) (by decide +kernel)
set_option maxRecDepth 20000 in
theorem gX1_placeOf_X1_size : GoodIn wsX1_placeOf (wsV RX1 112 RX1 yX1_size wsX1_size) := goodIn_app (goodIn_of _ (by decide +kernel)) ggX1_placeOf_X1_size
set_option maxRecDepth 20000 in
theorem ggX1_placeOf_X5_byteAt : GoodIn wsX1_placeOf wsX5_byteAt := goodIn_r _ [12, 13, 14, 36, 37, 38, 39] (by decide +kernel) (by decide +kernel)
set_option maxRecDepth 20000 in
theorem gX1_placeOf_X5_byteAt : GoodIn wsX1_placeOf (wsV RX1 114 RX5 yX5_byteAt wsX5_byteAt) := goodIn_app (goodIn_of _ (by decide +kernel)) ggX1_placeOf_X5_byteAt
set_option maxRecDepth 20000 in
theorem ggX1_placeOf_X4_length : GoodIn wsX1_placeOf wsX4_length := goodIn_r _ [18, 19, 20, 17, 21, 22, 23, 24, 25, 26, 27, 28, 29, 30] (by decide +kernel) (by decide +kernel)
set_option maxRecDepth 20000 in
theorem gX1_placeOf_X4_length : GoodIn wsX1_placeOf (va_wsS RX1 66 yX4_length wsX4_length) := goodIn_app (goodIn_of _ (by decide +kernel)) ggX1_placeOf_X4_length
theorem dX1_placeOf_0 : decode cX1_placeOf 0 = .ok (.iload_n 3, 1) := by decide +kernel
theorem dX1_placeOf_1 : decode cX1_placeOf 1 = .ok (.ifCond .lt 12, 3) := by decide +kernel
theorem dX1_placeOf_4 : decode cX1_placeOf 4 = .ok (.iload_n 3, 1) := by decide +kernel
theorem dX1_placeOf_5 : decode cX1_placeOf 5 = .ok (.aload_n 0, 1) := by decide +kernel
theorem dX1_placeOf_6 : decode cX1_placeOf 6 = .ok (.iload_n 2, 1) := by decide +kernel
theorem dX1_placeOf_7 : decode cX1_placeOf 7 = .ok (.invokevirtual 112, 3) := by decide +kernel
theorem dX1_placeOf_10 : decode cX1_placeOf 10 = .ok (.if_icmp .lt 5, 3) := by decide +kernel
theorem dX1_placeOf_13 : decode cX1_placeOf 13 = .ok (.iconst (-1), 1) := by decide +kernel
theorem dX1_placeOf_14 : decode cX1_placeOf 14 = .ok (.ireturn, 1) := by decide +kernel
theorem dX1_placeOf_15 : decode cX1_placeOf 15 = .ok (.aload_n 0, 1) := by decide +kernel
theorem dX1_placeOf_16 : decode cX1_placeOf 16 = .ok (.getfield 11, 3) := by decide +kernel
theorem dX1_placeOf_19 : decode cX1_placeOf 19 = .ok (.iload_n 2, 1) := by decide +kernel
theorem dX1_placeOf_20 : decode cX1_placeOf 20 = .ok (.iaload, 1) := by decide +kernel
theorem dX1_placeOf_21 : decode cX1_placeOf 21 = .ok (.istore 4, 2) := by decide +kernel
theorem dX1_placeOf_23 : decode cX1_placeOf 23 = .ok (.iconst 0, 1) := by decide +kernel
theorem dX1_placeOf_24 : decode cX1_placeOf 24 = .ok (.istore 5, 2) := by decide +kernel
theorem dX1_placeOf_26 : decode cX1_placeOf 26 = .ok (.iload 5, 2) := by decide +kernel
theorem dX1_placeOf_28 : decode cX1_placeOf 28 = .ok (.iload_n 3, 1) := by decide +kernel
theorem dX1_placeOf_29 : decode cX1_placeOf 29 = .ok (.if_icmp .ge 23, 3) := by decide +kernel
theorem dX1_placeOf_32 : decode cX1_placeOf 32 = .ok (.iload 4, 2) := by decide +kernel
theorem dX1_placeOf_34 : decode cX1_placeOf 34 = .ok (.aload_n 1, 1) := by decide +kernel
theorem dX1_placeOf_35 : decode cX1_placeOf 35 = .ok (.iload 4, 2) := by decide +kernel
theorem dX1_placeOf_37 : decode cX1_placeOf 37 = .ok (.invokevirtual 114, 3) := by decide +kernel
theorem dX1_placeOf_40 : decode cX1_placeOf 40 = .ok (.invokestatic 66, 3) := by decide +kernel
theorem dX1_placeOf_43 : decode cX1_placeOf 43 = .ok (.iadd, 1) := by decide +kernel
theorem dX1_placeOf_44 : decode cX1_placeOf 44 = .ok (.istore 4, 2) := by decide +kernel
theorem dX1_placeOf_46 : decode cX1_placeOf 46 = .ok (.iinc 5 1, 3) := by decide +kernel
theorem dX1_placeOf_49 : decode cX1_placeOf 49 = .ok (.goto (-23), 3) := by decide +kernel
theorem dX1_placeOf_52 : decode cX1_placeOf 52 = .ok (.iload 4, 2) := by decide +kernel
theorem dX1_placeOf_54 : decode cX1_placeOf 54 = .ok (.aload_n 0, 1) := by decide +kernel
theorem dX1_placeOf_55 : decode cX1_placeOf 55 = .ok (.getfield 11, 3) := by decide +kernel
theorem dX1_placeOf_58 : decode cX1_placeOf 58 = .ok (.iload_n 2, 1) := by decide +kernel
theorem dX1_placeOf_59 : decode cX1_placeOf 59 = .ok (.iaload, 1) := by decide +kernel
theorem dX1_placeOf_60 : decode cX1_placeOf 60 = .ok (.isub, 1) := by decide +kernel
theorem dX1_placeOf_61 : decode cX1_placeOf 61 = .ok (.ireturn, 1) := by decide +kernel
set_option maxRecDepth 20000 in
theorem ggX1_fact_X1_beginsAt : GoodIn wsX1_fact wsX1_beginsAt := goodIn_r _ [6, 1, 7, 8, 9, 10, 5, 11, 12, 44, 45, 46, 47, 48] (by decide +kernel) (by decide +kernel)
set_option maxRecDepth 20000 in
theorem gX1_fact_X1_beginsAt : GoodIn wsX1_fact (wsV RX1 117 RX1 yX1_beginsAt wsX1_beginsAt) := goodIn_app (goodIn_of _ (by decide +kernel)) ggX1_fact_X1_beginsAt
set_option maxRecDepth 20000 in
theorem ggX1_fact_X5_byteAt : GoodIn wsX1_fact wsX5_byteAt := goodIn_r _ [17, 18, 19, 49, 50, 51, 52] (by decide +kernel) (by decide +kernel)
set_option maxRecDepth 20000 in
theorem gX1_fact_X5_byteAt : GoodIn wsX1_fact (wsV RX1 114 RX5 yX5_byteAt wsX5_byteAt) := goodIn_app (goodIn_of _ (by decide +kernel)) ggX1_fact_X5_byteAt
set_option maxRecDepth 20000 in
theorem ggX1_fact_X4_first : GoodIn wsX1_fact wsX4_first := goodIn_r _ [23, 24] (by decide +kernel) (by decide +kernel)
set_option maxRecDepth 20000 in
theorem gX1_fact_X4_first : GoodIn wsX1_fact (va_wsS RX1 77 yX4_first wsX4_first) := goodIn_app (goodIn_of _ (by decide +kernel)) ggX1_fact_X4_first
set_option maxRecDepth 20000 in
theorem ggX1_fact_X4_width : GoodIn wsX1_fact wsX4_width := goodIn_r _ [27, 28] (by decide +kernel) (by decide +kernel)
set_option maxRecDepth 20000 in
theorem gX1_fact_X4_width : GoodIn wsX1_fact (va_wsS RX1 99 yX4_width wsX4_width) := goodIn_app (goodIn_of _ (by decide +kernel)) ggX1_fact_X4_width
set_option maxRecDepth 20000 in
theorem ggX1_fact_X5_valueAt : GoodIn wsX1_fact wsX5_valueAt := goodIn_r _ [32, 33, 14, 15, 16, 17, 18, 19, 49, 50, 51, 52] (by decide +kernel) (by decide +kernel)
set_option maxRecDepth 20000 in
theorem gX1_fact_X5_valueAt : GoodIn wsX1_fact (wsV RX1 121 RX5 yX5_valueAt wsX5_valueAt) := goodIn_app (goodIn_of _ (by decide +kernel)) ggX1_fact_X5_valueAt
set_option maxRecDepth 20000 in
theorem ggX1_fact_X4_second : GoodIn wsX1_fact wsX4_second := goodIn_r _ [36, 37] (by decide +kernel) (by decide +kernel)
set_option maxRecDepth 20000 in
theorem gX1_fact_X4_second : GoodIn wsX1_fact (va_wsS RX1 84 yX4_second wsX4_second) := goodIn_app (goodIn_of _ (by decide +kernel)) ggX1_fact_X4_second
set_option maxRecDepth 20000 in
theorem ggX1_fact_X4_length : GoodIn wsX1_fact wsX4_length := goodIn_r _ [40, 41, 21, 22, 23, 24, 42, 26, 27, 28, 43, 35, 36, 37] (by decide +kernel) (by decide +kernel)
set_option maxRecDepth 20000 in
theorem gX1_fact_X4_length : GoodIn wsX1_fact (va_wsS RX1 66 yX4_length wsX4_length) := goodIn_app (goodIn_of _ (by decide +kernel)) ggX1_fact_X4_length
theorem dX1_fact_0 : decode cX1_fact 0 = .ok (.aload_n 0, 1) := by decide +kernel
theorem dX1_fact_1 : decode cX1_fact 1 = .ok (.iload_n 2, 1) := by decide +kernel
theorem dX1_fact_2 : decode cX1_fact 2 = .ok (.iload_n 3, 1) := by decide +kernel
theorem dX1_fact_3 : decode cX1_fact 3 = .ok (.invokevirtual 117, 3) := by decide +kernel
theorem dX1_fact_6 : decode cX1_fact 6 = .ok (.ifCond .ne 5, 3) := by decide +kernel
theorem dX1_fact_9 : decode cX1_fact 9 = .ok (.iconst (-1), 1) := by decide +kernel
theorem dX1_fact_10 : decode cX1_fact 10 = .ok (.ireturn, 1) := by decide +kernel
theorem dX1_fact_11 : decode cX1_fact 11 = .ok (.aload_n 0, 1) := by decide +kernel
theorem dX1_fact_12 : decode cX1_fact 12 = .ok (.getfield 11, 3) := by decide +kernel
theorem dX1_fact_15 : decode cX1_fact 15 = .ok (.iload_n 2, 1) := by decide +kernel
theorem dX1_fact_16 : decode cX1_fact 16 = .ok (.iaload, 1) := by decide +kernel
theorem dX1_fact_17 : decode cX1_fact 17 = .ok (.iload_n 3, 1) := by decide +kernel
theorem dX1_fact_18 : decode cX1_fact 18 = .ok (.iadd, 1) := by decide +kernel
theorem dX1_fact_19 : decode cX1_fact 19 = .ok (.istore 5, 2) := by decide +kernel
theorem dX1_fact_21 : decode cX1_fact 21 = .ok (.aload_n 1, 1) := by decide +kernel
theorem dX1_fact_22 : decode cX1_fact 22 = .ok (.iload 5, 2) := by decide +kernel
theorem dX1_fact_24 : decode cX1_fact 24 = .ok (.invokevirtual 114, 3) := by decide +kernel
theorem dX1_fact_27 : decode cX1_fact 27 = .ok (.istore 6, 2) := by decide +kernel
theorem dX1_fact_29 : decode cX1_fact 29 = .ok (.iload 6, 2) := by decide +kernel
theorem dX1_fact_31 : decode cX1_fact 31 = .ok (.invokestatic 77, 3) := by decide +kernel
theorem dX1_fact_34 : decode cX1_fact 34 = .ok (.invokestatic 99, 3) := by decide +kernel
theorem dX1_fact_37 : decode cX1_fact 37 = .ok (.istore 7, 2) := by decide +kernel
theorem dX1_fact_39 : decode cX1_fact 39 = .ok (.iload 4, 2) := by decide +kernel
theorem dX1_fact_41 : decode cX1_fact 41 = .ok (.tableswitch 73 0 3 #[31, 34, 45, 65], 31) := by decide +kernel
theorem dX1_fact_72 : decode cX1_fact 72 = .ok (.iload 6, 2) := by decide +kernel
theorem dX1_fact_74 : decode cX1_fact 74 = .ok (.ireturn, 1) := by decide +kernel
theorem dX1_fact_75 : decode cX1_fact 75 = .ok (.aload_n 1, 1) := by decide +kernel
theorem dX1_fact_76 : decode cX1_fact 76 = .ok (.iload 5, 2) := by decide +kernel
theorem dX1_fact_78 : decode cX1_fact 78 = .ok (.iconst 1, 1) := by decide +kernel
theorem dX1_fact_79 : decode cX1_fact 79 = .ok (.iadd, 1) := by decide +kernel
theorem dX1_fact_80 : decode cX1_fact 80 = .ok (.iload 7, 2) := by decide +kernel
theorem dX1_fact_82 : decode cX1_fact 82 = .ok (.invokevirtual 121, 3) := by decide +kernel
theorem dX1_fact_85 : decode cX1_fact 85 = .ok (.ireturn, 1) := by decide +kernel
theorem dX1_fact_86 : decode cX1_fact 86 = .ok (.aload_n 1, 1) := by decide +kernel
theorem dX1_fact_87 : decode cX1_fact 87 = .ok (.iload 5, 2) := by decide +kernel
theorem dX1_fact_89 : decode cX1_fact 89 = .ok (.iconst 1, 1) := by decide +kernel
theorem dX1_fact_90 : decode cX1_fact 90 = .ok (.iadd, 1) := by decide +kernel
theorem dX1_fact_91 : decode cX1_fact 91 = .ok (.iload 7, 2) := by decide +kernel
theorem dX1_fact_93 : decode cX1_fact 93 = .ok (.iadd, 1) := by decide +kernel
theorem dX1_fact_94 : decode cX1_fact 94 = .ok (.iload 6, 2) := by decide +kernel
theorem dX1_fact_96 : decode cX1_fact 96 = .ok (.invokestatic 84, 3) := by decide +kernel
theorem dX1_fact_99 : decode cX1_fact 99 = .ok (.invokestatic 99, 3) := by decide +kernel
theorem dX1_fact_102 : decode cX1_fact 102 = .ok (.invokevirtual 121, 3) := by decide +kernel
theorem dX1_fact_105 : decode cX1_fact 105 = .ok (.ireturn, 1) := by decide +kernel
theorem dX1_fact_106 : decode cX1_fact 106 = .ok (.iload_n 3, 1) := by decide +kernel
theorem dX1_fact_107 : decode cX1_fact 107 = .ok (.iload 6, 2) := by decide +kernel
theorem dX1_fact_109 : decode cX1_fact 109 = .ok (.invokestatic 66, 3) := by decide +kernel
theorem dX1_fact_112 : decode cX1_fact 112 = .ok (.iadd, 1) := by decide +kernel
theorem dX1_fact_113 : decode cX1_fact 113 = .ok (.ireturn, 1) := by decide +kernel
theorem dX1_fact_114 : decode cX1_fact 114 = .ok (.iconst (-1), 1) := by decide +kernel
theorem dX1_fact_115 : decode cX1_fact 115 = .ok (.ireturn, 1) := by decide +kernel
set_option maxRecDepth 20000 in
theorem ggX1_misfit_X1_size : GoodIn wsX1_misfit wsX1_size := goodIn_r _ [6, 7, 49, 50, 51, 52, 53] (by decide +kernel) (by decide +kernel)
set_option maxRecDepth 20000 in
theorem gX1_misfit_X1_size : GoodIn wsX1_misfit (wsV RX1 112 RX1 yX1_size wsX1_size) := goodIn_app (goodIn_of _ (by decide +kernel)) ggX1_misfit_X1_size
set_option maxRecDepth 20000 in
theorem ggX1_misfit_X5_byteAt : GoodIn wsX1_misfit wsX5_byteAt := goodIn_r _ [12, 13, 14, 54, 55, 56, 57] (by decide +kernel) (by decide +kernel)
set_option maxRecDepth 20000 in
theorem gX1_misfit_X5_byteAt : GoodIn wsX1_misfit (wsV RX1 114 RX5 yX5_byteAt wsX5_byteAt) := goodIn_app (goodIn_of _ (by decide +kernel)) ggX1_misfit_X5_byteAt
set_option maxRecDepth 20000 in
theorem ggX1_misfit_X4_first : GoodIn wsX1_misfit wsX4_first := goodIn_r _ [18, 19] (by decide +kernel) (by decide +kernel)
set_option maxRecDepth 20000 in
theorem gX1_misfit_X4_first : GoodIn wsX1_misfit (va_wsS RX1 77 yX4_first wsX4_first) := goodIn_app (goodIn_of _ (by decide +kernel)) ggX1_misfit_X4_first
set_option maxRecDepth 20000 in
theorem ggX1_misfit_X4_width : GoodIn wsX1_misfit wsX4_width := goodIn_r _ [22, 23] (by decide +kernel) (by decide +kernel)
set_option maxRecDepth 20000 in
theorem gX1_misfit_X4_width : GoodIn wsX1_misfit (va_wsS RX1 99 yX4_width wsX4_width) := goodIn_app (goodIn_of _ (by decide +kernel)) ggX1_misfit_X4_width
set_option maxRecDepth 20000 in
theorem ggX1_misfit_X5_valueAt : GoodIn wsX1_misfit wsX5_valueAt := goodIn_r _ [27, 28, 9, 10, 11, 12, 13, 14, 54, 55, 56, 57] (by decide +kernel) (by decide +kernel)
set_option maxRecDepth 20000 in
theorem gX1_misfit_X5_valueAt : GoodIn wsX1_misfit (wsV RX1 121 RX5 yX5_valueAt wsX5_valueAt) := goodIn_app (goodIn_of _ (by decide +kernel)) ggX1_misfit_X5_valueAt
set_option maxRecDepth 20000 in
theorem ggX1_misfit_X1_beginsAt : GoodIn wsX1_misfit wsX1_beginsAt := goodIn_r _ [32, 1, 33, 34, 35, 36, 5, 37, 38, 49, 50, 51, 52, 53] (by decide +kernel) (by decide +kernel)
set_option maxRecDepth 20000 in
theorem gX1_misfit_X1_beginsAt : GoodIn wsX1_misfit (wsV RX1 117 RX1 yX1_beginsAt wsX1_beginsAt) := goodIn_app (goodIn_of _ (by decide +kernel)) ggX1_misfit_X1_beginsAt
set_option maxRecDepth 20000 in
theorem ggX1_misfit_X4_second : GoodIn wsX1_misfit wsX4_second := goodIn_r _ [41, 42] (by decide +kernel) (by decide +kernel)
set_option maxRecDepth 20000 in
theorem gX1_misfit_X4_second : GoodIn wsX1_misfit (va_wsS RX1 84 yX4_second wsX4_second) := goodIn_app (goodIn_of _ (by decide +kernel)) ggX1_misfit_X4_second
set_option maxRecDepth 20000 in
theorem ggX1_misfit_X4_length : GoodIn wsX1_misfit wsX4_length := goodIn_r _ [45, 46, 16, 17, 18, 19, 47, 21, 22, 23, 48, 40, 41, 42] (by decide +kernel) (by decide +kernel)
set_option maxRecDepth 20000 in
theorem gX1_misfit_X4_length : GoodIn wsX1_misfit (va_wsS RX1 66 yX4_length wsX4_length) := goodIn_app (goodIn_of _ (by decide +kernel)) ggX1_misfit_X4_length
theorem dX1_misfit_0 : decode cX1_misfit 0 = .ok (.aload_n 0, 1) := by decide +kernel
theorem dX1_misfit_1 : decode cX1_misfit 1 = .ok (.iload_n 2, 1) := by decide +kernel
theorem dX1_misfit_2 : decode cX1_misfit 2 = .ok (.invokevirtual 112, 3) := by decide +kernel
theorem dX1_misfit_5 : decode cX1_misfit 5 = .ok (.istore 4, 2) := by decide +kernel
theorem dX1_misfit_7 : decode cX1_misfit 7 = .ok (.iload 4, 2) := by decide +kernel
theorem dX1_misfit_9 : decode cX1_misfit 9 = .ok (.ifCond .le 12, 3) := by decide +kernel
theorem dX1_misfit_12 : decode cX1_misfit 12 = .ok (.aload_n 0, 1) := by decide +kernel
theorem dX1_misfit_13 : decode cX1_misfit 13 = .ok (.getfield 11, 3) := by decide +kernel
theorem dX1_misfit_16 : decode cX1_misfit 16 = .ok (.iload_n 2, 1) := by decide +kernel
theorem dX1_misfit_17 : decode cX1_misfit 17 = .ok (.iaload, 1) := by decide +kernel
theorem dX1_misfit_18 : decode cX1_misfit 18 = .ok (.goto 4, 3) := by decide +kernel
theorem dX1_misfit_21 : decode cX1_misfit 21 = .ok (.iconst 0, 1) := by decide +kernel
theorem dX1_misfit_22 : decode cX1_misfit 22 = .ok (.istore 5, 2) := by decide +kernel
theorem dX1_misfit_24 : decode cX1_misfit 24 = .ok (.iconst 0, 1) := by decide +kernel
theorem dX1_misfit_25 : decode cX1_misfit 25 = .ok (.istore 6, 2) := by decide +kernel
theorem dX1_misfit_27 : decode cX1_misfit 27 = .ok (.iload 6, 2) := by decide +kernel
theorem dX1_misfit_29 : decode cX1_misfit 29 = .ok (.iload 4, 2) := by decide +kernel
theorem dX1_misfit_31 : decode cX1_misfit 31 = .ok (.if_icmp .ge 125, 3) := by decide +kernel
theorem dX1_misfit_34 : decode cX1_misfit 34 = .ok (.aload_n 1, 1) := by decide +kernel
theorem dX1_misfit_35 : decode cX1_misfit 35 = .ok (.iload 5, 2) := by decide +kernel
theorem dX1_misfit_37 : decode cX1_misfit 37 = .ok (.invokevirtual 114, 3) := by decide +kernel
theorem dX1_misfit_40 : decode cX1_misfit 40 = .ok (.istore 7, 2) := by decide +kernel
theorem dX1_misfit_42 : decode cX1_misfit 42 = .ok (.iload 7, 2) := by decide +kernel
theorem dX1_misfit_44 : decode cX1_misfit 44 = .ok (.invokestatic 77, 3) := by decide +kernel
theorem dX1_misfit_47 : decode cX1_misfit 47 = .ok (.istore 8, 2) := by decide +kernel
theorem dX1_misfit_49 : decode cX1_misfit 49 = .ok (.iload 5, 2) := by decide +kernel
theorem dX1_misfit_51 : decode cX1_misfit 51 = .ok (.iconst 1, 1) := by decide +kernel
theorem dX1_misfit_52 : decode cX1_misfit 52 = .ok (.iadd, 1) := by decide +kernel
theorem dX1_misfit_53 : decode cX1_misfit 53 = .ok (.iload 8, 2) := by decide +kernel
theorem dX1_misfit_55 : decode cX1_misfit 55 = .ok (.invokestatic 99, 3) := by decide +kernel
theorem dX1_misfit_58 : decode cX1_misfit 58 = .ok (.iadd, 1) := by decide +kernel
theorem dX1_misfit_59 : decode cX1_misfit 59 = .ok (.istore 9, 2) := by decide +kernel
theorem dX1_misfit_61 : decode cX1_misfit 61 = .ok (.iload 8, 2) := by decide +kernel
theorem dX1_misfit_63 : decode cX1_misfit 63 = .ok (.bipush 8, 2) := by decide +kernel
theorem dX1_misfit_65 : decode cX1_misfit 65 = .ok (.if_icmp .ne 20, 3) := by decide +kernel
theorem dX1_misfit_68 : decode cX1_misfit 68 = .ok (.aload_n 1, 1) := by decide +kernel
theorem dX1_misfit_69 : decode cX1_misfit 69 = .ok (.iload 5, 2) := by decide +kernel
theorem dX1_misfit_71 : decode cX1_misfit 71 = .ok (.iconst 1, 1) := by decide +kernel
theorem dX1_misfit_72 : decode cX1_misfit 72 = .ok (.iadd, 1) := by decide +kernel
theorem dX1_misfit_73 : decode cX1_misfit 73 = .ok (.invokevirtual 114, 3) := by decide +kernel
theorem dX1_misfit_76 : decode cX1_misfit 76 = .ok (.iload_n 3, 1) := by decide +kernel
theorem dX1_misfit_77 : decode cX1_misfit 77 = .ok (.if_icmp .lt 8, 3) := by decide +kernel
theorem dX1_misfit_80 : decode cX1_misfit 80 = .ok (.iload 5, 2) := by decide +kernel
theorem dX1_misfit_82 : decode cX1_misfit 82 = .ok (.iconst 1, 1) := by decide +kernel
theorem dX1_misfit_83 : decode cX1_misfit 83 = .ok (.iadd, 1) := by decide +kernel
theorem dX1_misfit_84 : decode cX1_misfit 84 = .ok (.ireturn, 1) := by decide +kernel
theorem dX1_misfit_85 : decode cX1_misfit 85 = .ok (.iload 8, 2) := by decide +kernel
theorem dX1_misfit_87 : decode cX1_misfit 87 = .ok (.iconst 4, 1) := by decide +kernel
theorem dX1_misfit_88 : decode cX1_misfit 88 = .ok (.if_icmp .ne 25, 3) := by decide +kernel
theorem dX1_misfit_91 : decode cX1_misfit 91 = .ok (.aload_n 0, 1) := by decide +kernel
theorem dX1_misfit_92 : decode cX1_misfit 92 = .ok (.iload_n 2, 1) := by decide +kernel
theorem dX1_misfit_93 : decode cX1_misfit 93 = .ok (.aload_n 1, 1) := by decide +kernel
theorem dX1_misfit_94 : decode cX1_misfit 94 = .ok (.iload 5, 2) := by decide +kernel
theorem dX1_misfit_96 : decode cX1_misfit 96 = .ok (.iconst 1, 1) := by decide +kernel
theorem dX1_misfit_97 : decode cX1_misfit 97 = .ok (.iadd, 1) := by decide +kernel
theorem dX1_misfit_98 : decode cX1_misfit 98 = .ok (.iconst 2, 1) := by decide +kernel
theorem dX1_misfit_99 : decode cX1_misfit 99 = .ok (.invokevirtual 121, 3) := by decide +kernel
theorem dX1_misfit_102 : decode cX1_misfit 102 = .ok (.invokevirtual 117, 3) := by decide +kernel
theorem dX1_misfit_105 : decode cX1_misfit 105 = .ok (.ifCond .ne 8, 3) := by decide +kernel
theorem dX1_misfit_108 : decode cX1_misfit 108 = .ok (.iload 5, 2) := by decide +kernel
theorem dX1_misfit_110 : decode cX1_misfit 110 = .ok (.iconst 1, 1) := by decide +kernel
theorem dX1_misfit_111 : decode cX1_misfit 111 = .ok (.iadd, 1) := by decide +kernel
theorem dX1_misfit_112 : decode cX1_misfit 112 = .ok (.ireturn, 1) := by decide +kernel
theorem dX1_misfit_113 : decode cX1_misfit 113 = .ok (.iload 7, 2) := by decide +kernel
theorem dX1_misfit_115 : decode cX1_misfit 115 = .ok (.invokestatic 84, 3) := by decide +kernel
theorem dX1_misfit_118 : decode cX1_misfit 118 = .ok (.iconst 4, 1) := by decide +kernel
theorem dX1_misfit_119 : decode cX1_misfit 119 = .ok (.if_icmp .ne 21, 3) := by decide +kernel
theorem dX1_misfit_122 : decode cX1_misfit 122 = .ok (.aload_n 0, 1) := by decide +kernel
theorem dX1_misfit_123 : decode cX1_misfit 123 = .ok (.iload_n 2, 1) := by decide +kernel
theorem dX1_misfit_124 : decode cX1_misfit 124 = .ok (.aload_n 1, 1) := by decide +kernel
theorem dX1_misfit_125 : decode cX1_misfit 125 = .ok (.iload 9, 2) := by decide +kernel
theorem dX1_misfit_127 : decode cX1_misfit 127 = .ok (.iconst 2, 1) := by decide +kernel
theorem dX1_misfit_128 : decode cX1_misfit 128 = .ok (.invokevirtual 121, 3) := by decide +kernel
theorem dX1_misfit_131 : decode cX1_misfit 131 = .ok (.invokevirtual 117, 3) := by decide +kernel
theorem dX1_misfit_134 : decode cX1_misfit 134 = .ok (.ifCond .ne 6, 3) := by decide +kernel
theorem dX1_misfit_137 : decode cX1_misfit 137 = .ok (.iload 9, 2) := by decide +kernel
theorem dX1_misfit_139 : decode cX1_misfit 139 = .ok (.ireturn, 1) := by decide +kernel
theorem dX1_misfit_140 : decode cX1_misfit 140 = .ok (.iload 5, 2) := by decide +kernel
theorem dX1_misfit_142 : decode cX1_misfit 142 = .ok (.iload 7, 2) := by decide +kernel
theorem dX1_misfit_144 : decode cX1_misfit 144 = .ok (.invokestatic 66, 3) := by decide +kernel
theorem dX1_misfit_147 : decode cX1_misfit 147 = .ok (.iadd, 1) := by decide +kernel
theorem dX1_misfit_148 : decode cX1_misfit 148 = .ok (.istore 5, 2) := by decide +kernel
theorem dX1_misfit_150 : decode cX1_misfit 150 = .ok (.iinc 6 1, 3) := by decide +kernel
theorem dX1_misfit_153 : decode cX1_misfit 153 = .ok (.goto (-126), 3) := by decide +kernel
theorem dX1_misfit_156 : decode cX1_misfit 156 = .ok (.iconst (-1), 1) := by decide +kernel
theorem dX1_misfit_157 : decode cX1_misfit 157 = .ok (.ireturn, 1) := by decide +kernel
end
section
theorem dX2_init_0 : decode cX2_init 0 = .ok (.aload_n 0, 1) := by decide +kernel
theorem dX2_init_1 : decode cX2_init 1 = .ok (.invokespecial 3, 3) := by decide +kernel
theorem dX2_init_4 : decode cX2_init 4 = .ok (.aload_n 0, 1) := by decide +kernel
theorem dX2_init_5 : decode cX2_init 5 = .ok (.bipush 64, 2) := by decide +kernel
theorem dX2_init_7 : decode cX2_init 7 = .ok (.newarray .int, 2) := by decide +kernel
theorem dX2_init_9 : decode cX2_init 9 = .ok (.putfield 11, 3) := by decide +kernel
theorem dX2_init_12 : decode cX2_init 12 = .ok (.aload_n 0, 1) := by decide +kernel
theorem dX2_init_13 : decode cX2_init 13 = .ok (.bipush 64, 2) := by decide +kernel
theorem dX2_init_15 : decode cX2_init 15 = .ok (.newarray .int, 2) := by decide +kernel
theorem dX2_init_17 : decode cX2_init 17 = .ok (.putfield 17, 3) := by decide +kernel
theorem dX2_init_20 : decode cX2_init 20 = .ok (.return_, 1) := by decide +kernel
set_option maxRecDepth 20000 in
theorem ggX2_read_X5_number : GoodIn wsX2_read wsX5_number := goodIn_r _ [11, 12, 13, 14, 15, 16, 10, 17, 18, 19, 34, 35, 36, 37] (by decide +kernel) (by decide +kernel)
set_option maxRecDepth 20000 in
theorem gX2_read_X5_number : GoodIn wsX2_read (wsV RX2 20 RX5 yX5_number wsX5_number) := goodIn_app (goodIn_of _ (by decide +kernel)) ggX2_read_X5_number
set_option maxRecDepth 20000 in
theorem ggX2_read_X5_place : GoodIn wsX2_read wsX5_place := goodIn_r _ [23, 12, 34, 35, 36, 37] (by decide +kernel) (by decide +kernel)
set_option maxRecDepth 20000 in
theorem gX2_read_X5_place : GoodIn wsX2_read (wsV RX2 31 RX5 yX5_place wsX5_place) := goodIn_app (goodIn_of _ (by decide +kernel)) ggX2_read_X5_place
set_option maxRecDepth 20000 in
theorem ggX2_read_X5_skip : GoodIn wsX2_read wsX5_skip := goodIn_r _ [27, 13, 18, 12, 28, 29, 30, 10, 31, 34, 35, 36, 37] (by decide +kernel) (by decide +kernel)
set_option maxRecDepth 20000 in
theorem gX2_read_X5_skip : GoodIn wsX2_read (wsV RX2 35 RX5 yX5_skip wsX5_skip) := goodIn_app (goodIn_of _ (by decide +kernel)) ggX2_read_X5_skip
theorem dX2_read_0 : decode cX2_read 0 = .ok (.aload_n 1, 1) := by decide +kernel
theorem dX2_read_1 : decode cX2_read 1 = .ok (.iconst 0, 1) := by decide +kernel
theorem dX2_read_2 : decode cX2_read 2 = .ok (.bipush 8, 2) := by decide +kernel
theorem dX2_read_4 : decode cX2_read 4 = .ok (.invokevirtual 20, 3) := by decide +kernel
theorem dX2_read_7 : decode cX2_read 7 = .ok (.iconst 0, 1) := by decide +kernel
theorem dX2_read_8 : decode cX2_read 8 = .ok (.invokestatic 26, 3) := by decide +kernel
theorem dX2_read_11 : decode cX2_read 11 = .ok (.istore 4, 2) := by decide +kernel
theorem dX2_read_13 : decode cX2_read 13 = .ok (.aload_n 0, 1) := by decide +kernel
theorem dX2_read_14 : decode cX2_read 14 = .ok (.getfield 11, 3) := by decide +kernel
theorem dX2_read_17 : decode cX2_read 17 = .ok (.iload_n 3, 1) := by decide +kernel
theorem dX2_read_18 : decode cX2_read 18 = .ok (.aload_n 1, 1) := by decide +kernel
theorem dX2_read_19 : decode cX2_read 19 = .ok (.invokevirtual 31, 3) := by decide +kernel
theorem dX2_read_22 : decode cX2_read 22 = .ok (.iastore, 1) := by decide +kernel
theorem dX2_read_23 : decode cX2_read 23 = .ok (.aload_n 0, 1) := by decide +kernel
theorem dX2_read_24 : decode cX2_read 24 = .ok (.getfield 17, 3) := by decide +kernel
theorem dX2_read_27 : decode cX2_read 27 = .ok (.iload_n 3, 1) := by decide +kernel
theorem dX2_read_28 : decode cX2_read 28 = .ok (.iload 4, 2) := by decide +kernel
theorem dX2_read_30 : decode cX2_read 30 = .ok (.iastore, 1) := by decide +kernel
theorem dX2_read_31 : decode cX2_read 31 = .ok (.iconst 0, 1) := by decide +kernel
theorem dX2_read_32 : decode cX2_read 32 = .ok (.istore 5, 2) := by decide +kernel
theorem dX2_read_34 : decode cX2_read 34 = .ok (.iload 5, 2) := by decide +kernel
theorem dX2_read_36 : decode cX2_read 36 = .ok (.iload 4, 2) := by decide +kernel
theorem dX2_read_38 : decode cX2_read 38 = .ok (.if_icmp .ge 28, 3) := by decide +kernel
theorem dX2_read_41 : decode cX2_read 41 = .ok (.aload_n 1, 1) := by decide +kernel
theorem dX2_read_42 : decode cX2_read 42 = .ok (.iconst 4, 1) := by decide +kernel
theorem dX2_read_43 : decode cX2_read 43 = .ok (.invokevirtual 35, 3) := by decide +kernel
theorem dX2_read_46 : decode cX2_read 46 = .ok (.aload_n 1, 1) := by decide +kernel
theorem dX2_read_47 : decode cX2_read 47 = .ok (.iconst 0, 1) := by decide +kernel
theorem dX2_read_48 : decode cX2_read 48 = .ok (.iload_n 2, 1) := by decide +kernel
theorem dX2_read_49 : decode cX2_read 49 = .ok (.iconst 1, 1) := by decide +kernel
theorem dX2_read_50 : decode cX2_read 50 = .ok (.isub, 1) := by decide +kernel
theorem dX2_read_51 : decode cX2_read 51 = .ok (.invokevirtual 20, 3) := by decide +kernel
theorem dX2_read_54 : decode cX2_read 54 = .ok (.pop, 1) := by decide +kernel
theorem dX2_read_55 : decode cX2_read 55 = .ok (.aload_n 1, 1) := by decide +kernel
theorem dX2_read_56 : decode cX2_read 56 = .ok (.iconst 2, 1) := by decide +kernel
theorem dX2_read_57 : decode cX2_read 57 = .ok (.invokevirtual 35, 3) := by decide +kernel
theorem dX2_read_60 : decode cX2_read 60 = .ok (.iinc 5 1, 3) := by decide +kernel
theorem dX2_read_63 : decode cX2_read 63 = .ok (.goto (-29), 3) := by decide +kernel
theorem dX2_read_66 : decode cX2_read 66 = .ok (.return_, 1) := by decide +kernel
theorem dX2_size_0 : decode cX2_size 0 = .ok (.iload_n 1, 1) := by decide +kernel
theorem dX2_size_1 : decode cX2_size 1 = .ok (.ifCond .lt 18, 3) := by decide +kernel
theorem dX2_size_4 : decode cX2_size 4 = .ok (.iload_n 1, 1) := by decide +kernel
theorem dX2_size_5 : decode cX2_size 5 = .ok (.bipush 64, 2) := by decide +kernel
theorem dX2_size_7 : decode cX2_size 7 = .ok (.if_icmp .ge 12, 3) := by decide +kernel
theorem dX2_size_10 : decode cX2_size 10 = .ok (.aload_n 0, 1) := by decide +kernel
theorem dX2_size_11 : decode cX2_size 11 = .ok (.getfield 17, 3) := by decide +kernel
theorem dX2_size_14 : decode cX2_size 14 = .ok (.iload_n 1, 1) := by decide +kernel
theorem dX2_size_15 : decode cX2_size 15 = .ok (.iaload, 1) := by decide +kernel
theorem dX2_size_16 : decode cX2_size 16 = .ok (.goto 4, 3) := by decide +kernel
theorem dX2_size_19 : decode cX2_size 19 = .ok (.iconst 0, 1) := by decide +kernel
theorem dX2_size_20 : decode cX2_size 20 = .ok (.ireturn, 1) := by decide +kernel
set_option maxRecDepth 20000 in
theorem ggX2_fact_X2_size : GoodIn wsX2_fact wsX2_size := goodIn_r _ [6, 7, 20, 21] (by decide +kernel) (by decide +kernel)
set_option maxRecDepth 20000 in
theorem gX2_fact_X2_size : GoodIn wsX2_fact (wsV RX2 39 RX2 yX2_size wsX2_size) := goodIn_app (goodIn_of _ (by decide +kernel)) ggX2_fact_X2_size
set_option maxRecDepth 20000 in
theorem ggX2_fact_X5_valueAt : GoodIn wsX2_fact wsX5_valueAt := goodIn_r _ [12, 13, 14, 15, 11, 16, 17, 18, 22, 23, 24, 25] (by decide +kernel) (by decide +kernel)
set_option maxRecDepth 20000 in
theorem gX2_fact_X5_valueAt : GoodIn wsX2_fact (wsV RX2 43 RX5 yX5_valueAt wsX5_valueAt) := goodIn_app (goodIn_of _ (by decide +kernel)) ggX2_fact_X5_valueAt
set_option maxRecDepth 20000 in
theorem ggX2_fact_X5_byteAt : GoodIn wsX2_fact wsX5_byteAt := goodIn_r _ [16, 17, 18, 22, 23, 24, 25] (by decide +kernel) (by decide +kernel)
set_option maxRecDepth 20000 in
theorem gX2_fact_X5_byteAt : GoodIn wsX2_fact (wsV RX2 46 RX5 yX5_byteAt wsX5_byteAt) := goodIn_app (goodIn_of _ (by decide +kernel)) ggX2_fact_X5_byteAt
theorem dX2_fact_0 : decode cX2_fact 0 = .ok (.iload_n 3, 1) := by decide +kernel
theorem dX2_fact_1 : decode cX2_fact 1 = .ok (.ifCond .lt 12, 3) := by decide +kernel
theorem dX2_fact_4 : decode cX2_fact 4 = .ok (.iload_n 3, 1) := by decide +kernel
theorem dX2_fact_5 : decode cX2_fact 5 = .ok (.aload_n 0, 1) := by decide +kernel
theorem dX2_fact_6 : decode cX2_fact 6 = .ok (.iload_n 2, 1) := by decide +kernel
theorem dX2_fact_7 : decode cX2_fact 7 = .ok (.invokevirtual 39, 3) := by decide +kernel
theorem dX2_fact_10 : decode cX2_fact 10 = .ok (.if_icmp .lt 5, 3) := by decide +kernel
theorem dX2_fact_13 : decode cX2_fact 13 = .ok (.iconst (-1), 1) := by decide +kernel
theorem dX2_fact_14 : decode cX2_fact 14 = .ok (.ireturn, 1) := by decide +kernel
theorem dX2_fact_15 : decode cX2_fact 15 = .ok (.aload_n 0, 1) := by decide +kernel
theorem dX2_fact_16 : decode cX2_fact 16 = .ok (.getfield 11, 3) := by decide +kernel
theorem dX2_fact_19 : decode cX2_fact 19 = .ok (.iload_n 2, 1) := by decide +kernel
theorem dX2_fact_20 : decode cX2_fact 20 = .ok (.iaload, 1) := by decide +kernel
theorem dX2_fact_21 : decode cX2_fact 21 = .ok (.iload_n 3, 1) := by decide +kernel
theorem dX2_fact_22 : decode cX2_fact 22 = .ok (.bipush 7, 2) := by decide +kernel
theorem dX2_fact_24 : decode cX2_fact 24 = .ok (.imul, 1) := by decide +kernel
theorem dX2_fact_25 : decode cX2_fact 25 = .ok (.iadd, 1) := by decide +kernel
theorem dX2_fact_26 : decode cX2_fact 26 = .ok (.istore 5, 2) := by decide +kernel
theorem dX2_fact_28 : decode cX2_fact 28 = .ok (.iload 4, 2) := by decide +kernel
theorem dX2_fact_30 : decode cX2_fact 30 = .ok (.tableswitch 67 0 3 #[30, 38, 48, 57], 30) := by decide +kernel
theorem dX2_fact_60 : decode cX2_fact 60 = .ok (.aload_n 1, 1) := by decide +kernel
theorem dX2_fact_61 : decode cX2_fact 61 = .ok (.iload 5, 2) := by decide +kernel
theorem dX2_fact_63 : decode cX2_fact 63 = .ok (.iconst 2, 1) := by decide +kernel
theorem dX2_fact_64 : decode cX2_fact 64 = .ok (.invokevirtual 43, 3) := by decide +kernel
theorem dX2_fact_67 : decode cX2_fact 67 = .ok (.ireturn, 1) := by decide +kernel
theorem dX2_fact_68 : decode cX2_fact 68 = .ok (.aload_n 1, 1) := by decide +kernel
theorem dX2_fact_69 : decode cX2_fact 69 = .ok (.iload 5, 2) := by decide +kernel
theorem dX2_fact_71 : decode cX2_fact 71 = .ok (.iconst 2, 1) := by decide +kernel
theorem dX2_fact_72 : decode cX2_fact 72 = .ok (.iadd, 1) := by decide +kernel
theorem dX2_fact_73 : decode cX2_fact 73 = .ok (.iconst 2, 1) := by decide +kernel
theorem dX2_fact_74 : decode cX2_fact 74 = .ok (.invokevirtual 43, 3) := by decide +kernel
theorem dX2_fact_77 : decode cX2_fact 77 = .ok (.ireturn, 1) := by decide +kernel
theorem dX2_fact_78 : decode cX2_fact 78 = .ok (.aload_n 1, 1) := by decide +kernel
theorem dX2_fact_79 : decode cX2_fact 79 = .ok (.iload 5, 2) := by decide +kernel
theorem dX2_fact_81 : decode cX2_fact 81 = .ok (.iconst 4, 1) := by decide +kernel
theorem dX2_fact_82 : decode cX2_fact 82 = .ok (.iadd, 1) := by decide +kernel
theorem dX2_fact_83 : decode cX2_fact 83 = .ok (.invokevirtual 46, 3) := by decide +kernel
theorem dX2_fact_86 : decode cX2_fact 86 = .ok (.ireturn, 1) := by decide +kernel
theorem dX2_fact_87 : decode cX2_fact 87 = .ok (.aload_n 1, 1) := by decide +kernel
theorem dX2_fact_88 : decode cX2_fact 88 = .ok (.iload 5, 2) := by decide +kernel
theorem dX2_fact_90 : decode cX2_fact 90 = .ok (.iconst 5, 1) := by decide +kernel
theorem dX2_fact_91 : decode cX2_fact 91 = .ok (.iadd, 1) := by decide +kernel
theorem dX2_fact_92 : decode cX2_fact 92 = .ok (.iconst 2, 1) := by decide +kernel
theorem dX2_fact_93 : decode cX2_fact 93 = .ok (.invokevirtual 43, 3) := by decide +kernel
theorem dX2_fact_96 : decode cX2_fact 96 = .ok (.ireturn, 1) := by decide +kernel
theorem dX2_fact_97 : decode cX2_fact 97 = .ok (.iconst (-1), 1) := by decide +kernel
theorem dX2_fact_98 : decode cX2_fact 98 = .ok (.ireturn, 1) := by decide +kernel
set_option maxRecDepth 20000 in
theorem ggX2_misfit_X2_size : GoodIn wsX2_misfit wsX2_size := goodIn_r _ [6, 7, 32, 33] (by decide +kernel) (by decide +kernel)
set_option maxRecDepth 20000 in
theorem gX2_misfit_X2_size : GoodIn wsX2_misfit (wsV RX2 39 RX2 yX2_size wsX2_size) := goodIn_app (goodIn_of _ (by decide +kernel)) ggX2_misfit_X2_size
set_option maxRecDepth 20000 in
theorem ggX2_misfit_X5_valueAt : GoodIn wsX2_misfit wsX5_valueAt := goodIn_r _ [12, 13, 14, 15, 11, 16, 17, 18, 34, 35, 36, 37] (by decide +kernel) (by decide +kernel)
set_option maxRecDepth 20000 in
theorem gX2_misfit_X5_valueAt : GoodIn wsX2_misfit (wsV RX2 43 RX5 yX5_valueAt wsX5_valueAt) := goodIn_app (goodIn_of _ (by decide +kernel)) ggX2_misfit_X5_valueAt
set_option maxRecDepth 20000 in
theorem ggX2_misfit_X1_beginsAt : GoodIn wsX2_misfit wsX1_beginsAt := goodIn_r _ [23, 24, 25, 26, 27, 28, 22, 29, 30, 38, 39, 40, 41, 42] (by decide +kernel) (by decide +kernel)
set_option maxRecDepth 20000 in
theorem gX2_misfit_X1_beginsAt : GoodIn wsX2_misfit (wsV RX2 49 RX1 yX1_beginsAt wsX1_beginsAt) := goodIn_app (goodIn_of _ (by decide +kernel)) ggX2_misfit_X1_beginsAt
set_option maxRecDepth 20000 in
theorem ggX2_misfit_X1_length : GoodIn wsX2_misfit wsX1_length := goodIn_r _ [29, 30, 38, 39, 40, 41, 42] (by decide +kernel) (by decide +kernel)
set_option maxRecDepth 20000 in
theorem gX2_misfit_X1_length : GoodIn wsX2_misfit (wsV RX2 55 RX1 yX1_length wsX1_length) := goodIn_app (goodIn_of _ (by decide +kernel)) ggX2_misfit_X1_length
theorem dX2_misfit_0 : decode cX2_misfit 0 = .ok (.aload_n 0, 1) := by decide +kernel
theorem dX2_misfit_1 : decode cX2_misfit 1 = .ok (.iload_n 3, 1) := by decide +kernel
theorem dX2_misfit_2 : decode cX2_misfit 2 = .ok (.invokevirtual 39, 3) := by decide +kernel
theorem dX2_misfit_5 : decode cX2_misfit 5 = .ok (.istore 4, 2) := by decide +kernel
theorem dX2_misfit_7 : decode cX2_misfit 7 = .ok (.iload 4, 2) := by decide +kernel
theorem dX2_misfit_9 : decode cX2_misfit 9 = .ok (.ifCond .le 12, 3) := by decide +kernel
theorem dX2_misfit_12 : decode cX2_misfit 12 = .ok (.aload_n 0, 1) := by decide +kernel
theorem dX2_misfit_13 : decode cX2_misfit 13 = .ok (.getfield 11, 3) := by decide +kernel
theorem dX2_misfit_16 : decode cX2_misfit 16 = .ok (.iload_n 3, 1) := by decide +kernel
theorem dX2_misfit_17 : decode cX2_misfit 17 = .ok (.iaload, 1) := by decide +kernel
theorem dX2_misfit_18 : decode cX2_misfit 18 = .ok (.goto 4, 3) := by decide +kernel
theorem dX2_misfit_21 : decode cX2_misfit 21 = .ok (.iconst 0, 1) := by decide +kernel
theorem dX2_misfit_22 : decode cX2_misfit 22 = .ok (.istore 5, 2) := by decide +kernel
theorem dX2_misfit_24 : decode cX2_misfit 24 = .ok (.iconst 0, 1) := by decide +kernel
theorem dX2_misfit_25 : decode cX2_misfit 25 = .ok (.istore 6, 2) := by decide +kernel
theorem dX2_misfit_27 : decode cX2_misfit 27 = .ok (.iload 6, 2) := by decide +kernel
theorem dX2_misfit_29 : decode cX2_misfit 29 = .ok (.iload 4, 2) := by decide +kernel
theorem dX2_misfit_31 : decode cX2_misfit 31 = .ok (.if_icmp .ge 99, 3) := by decide +kernel
theorem dX2_misfit_34 : decode cX2_misfit 34 = .ok (.aload_n 1, 1) := by decide +kernel
theorem dX2_misfit_35 : decode cX2_misfit 35 = .ok (.iload 5, 2) := by decide +kernel
theorem dX2_misfit_37 : decode cX2_misfit 37 = .ok (.iconst 2, 1) := by decide +kernel
theorem dX2_misfit_38 : decode cX2_misfit 38 = .ok (.invokevirtual 43, 3) := by decide +kernel
theorem dX2_misfit_41 : decode cX2_misfit 41 = .ok (.istore 7, 2) := by decide +kernel
theorem dX2_misfit_43 : decode cX2_misfit 43 = .ok (.aload_n 1, 1) := by decide +kernel
theorem dX2_misfit_44 : decode cX2_misfit 44 = .ok (.iload 5, 2) := by decide +kernel
theorem dX2_misfit_46 : decode cX2_misfit 46 = .ok (.iconst 2, 1) := by decide +kernel
theorem dX2_misfit_47 : decode cX2_misfit 47 = .ok (.iadd, 1) := by decide +kernel
theorem dX2_misfit_48 : decode cX2_misfit 48 = .ok (.iconst 2, 1) := by decide +kernel
theorem dX2_misfit_49 : decode cX2_misfit 49 = .ok (.invokevirtual 43, 3) := by decide +kernel
theorem dX2_misfit_52 : decode cX2_misfit 52 = .ok (.istore 8, 2) := by decide +kernel
theorem dX2_misfit_54 : decode cX2_misfit 54 = .ok (.iload 7, 2) := by decide +kernel
theorem dX2_misfit_56 : decode cX2_misfit 56 = .ok (.iload 8, 2) := by decide +kernel
theorem dX2_misfit_58 : decode cX2_misfit 58 = .ok (.if_icmp .ge 13, 3) := by decide +kernel
theorem dX2_misfit_61 : decode cX2_misfit 61 = .ok (.aload_n 2, 1) := by decide +kernel
theorem dX2_misfit_62 : decode cX2_misfit 62 = .ok (.iload_n 3, 1) := by decide +kernel
theorem dX2_misfit_63 : decode cX2_misfit 63 = .ok (.iload 7, 2) := by decide +kernel
theorem dX2_misfit_65 : decode cX2_misfit 65 = .ok (.invokevirtual 49, 3) := by decide +kernel
theorem dX2_misfit_68 : decode cX2_misfit 68 = .ok (.ifCond .ne 6, 3) := by decide +kernel
theorem dX2_misfit_71 : decode cX2_misfit 71 = .ok (.iload 5, 2) := by decide +kernel
theorem dX2_misfit_73 : decode cX2_misfit 73 = .ok (.ireturn, 1) := by decide +kernel
theorem dX2_misfit_74 : decode cX2_misfit 74 = .ok (.iload 8, 2) := by decide +kernel
theorem dX2_misfit_76 : decode cX2_misfit 76 = .ok (.aload_n 2, 1) := by decide +kernel
theorem dX2_misfit_77 : decode cX2_misfit 77 = .ok (.iload_n 3, 1) := by decide +kernel
theorem dX2_misfit_78 : decode cX2_misfit 78 = .ok (.invokevirtual 55, 3) := by decide +kernel
theorem dX2_misfit_81 : decode cX2_misfit 81 = .ok (.if_icmp .eq 18, 3) := by decide +kernel
theorem dX2_misfit_84 : decode cX2_misfit 84 = .ok (.aload_n 2, 1) := by decide +kernel
theorem dX2_misfit_85 : decode cX2_misfit 85 = .ok (.iload_n 3, 1) := by decide +kernel
theorem dX2_misfit_86 : decode cX2_misfit 86 = .ok (.iload 8, 2) := by decide +kernel
theorem dX2_misfit_88 : decode cX2_misfit 88 = .ok (.invokevirtual 49, 3) := by decide +kernel
theorem dX2_misfit_91 : decode cX2_misfit 91 = .ok (.ifCond .ne 8, 3) := by decide +kernel
theorem dX2_misfit_94 : decode cX2_misfit 94 = .ok (.iload 5, 2) := by decide +kernel
theorem dX2_misfit_96 : decode cX2_misfit 96 = .ok (.iconst 2, 1) := by decide +kernel
theorem dX2_misfit_97 : decode cX2_misfit 97 = .ok (.iadd, 1) := by decide +kernel
theorem dX2_misfit_98 : decode cX2_misfit 98 = .ok (.ireturn, 1) := by decide +kernel
theorem dX2_misfit_99 : decode cX2_misfit 99 = .ok (.aload_n 2, 1) := by decide +kernel
theorem dX2_misfit_100 : decode cX2_misfit 100 = .ok (.iload_n 3, 1) := by decide +kernel
theorem dX2_misfit_101 : decode cX2_misfit 101 = .ok (.aload_n 1, 1) := by decide +kernel
theorem dX2_misfit_102 : decode cX2_misfit 102 = .ok (.iload 5, 2) := by decide +kernel
theorem dX2_misfit_104 : decode cX2_misfit 104 = .ok (.iconst 5, 1) := by decide +kernel
theorem dX2_misfit_105 : decode cX2_misfit 105 = .ok (.iadd, 1) := by decide +kernel
theorem dX2_misfit_106 : decode cX2_misfit 106 = .ok (.iconst 2, 1) := by decide +kernel
theorem dX2_misfit_107 : decode cX2_misfit 107 = .ok (.invokevirtual 43, 3) := by decide +kernel
theorem dX2_misfit_110 : decode cX2_misfit 110 = .ok (.invokevirtual 49, 3) := by decide +kernel
theorem dX2_misfit_113 : decode cX2_misfit 113 = .ok (.ifCond .ne 8, 3) := by decide +kernel
theorem dX2_misfit_116 : decode cX2_misfit 116 = .ok (.iload 5, 2) := by decide +kernel
theorem dX2_misfit_118 : decode cX2_misfit 118 = .ok (.iconst 5, 1) := by decide +kernel
theorem dX2_misfit_119 : decode cX2_misfit 119 = .ok (.iadd, 1) := by decide +kernel
theorem dX2_misfit_120 : decode cX2_misfit 120 = .ok (.ireturn, 1) := by decide +kernel
theorem dX2_misfit_121 : decode cX2_misfit 121 = .ok (.iinc 5 7, 3) := by decide +kernel
theorem dX2_misfit_124 : decode cX2_misfit 124 = .ok (.iinc 6 1, 3) := by decide +kernel
theorem dX2_misfit_127 : decode cX2_misfit 127 = .ok (.goto (-100), 3) := by decide +kernel
theorem dX2_misfit_130 : decode cX2_misfit 130 = .ok (.iconst (-1), 1) := by decide +kernel
theorem dX2_misfit_131 : decode cX2_misfit 131 = .ok (.ireturn, 1) := by decide +kernel
set_option maxRecDepth 20000 in
theorem ggX3_init_X1_init : GoodIn wsX3_init wsX1_init := goodIn_r _ [21, 22, 2, 3, 5, 23, 24, 25, 26, 42, 43, 44, 45, 46] (by decide +kernel) (by decide +kernel)
set_option maxRecDepth 20000 in
theorem gX3_init_X1_init_n36 : GoodIn wsX3_init (wsX1_init) := ggX3_init_X1_init
set_option maxRecDepth 20000 in
theorem ggX3_init_X2_init : GoodIn wsX3_init wsX2_init := goodIn_r _ [28, 29, 2, 3, 5, 30, 31, 47, 48] (by decide +kernel) (by decide +kernel)
set_option maxRecDepth 20000 in
theorem gX3_init_X2_init_n43 : GoodIn wsX3_init (wsX2_init) := ggX3_init_X2_init
theorem dX3_init_0 : decode cX3_init 0 = .ok (.aload_n 0, 1) := by decide +kernel
theorem dX3_init_1 : decode cX3_init 1 = .ok (.invokespecial 3, 3) := by decide +kernel
theorem dX3_init_4 : decode cX3_init 4 = .ok (.aload_n 0, 1) := by decide +kernel
theorem dX3_init_5 : decode cX3_init 5 = .ok (.iconst (-1), 1) := by decide +kernel
theorem dX3_init_6 : decode cX3_init 6 = .ok (.putfield 9, 3) := by decide +kernel
theorem dX3_init_9 : decode cX3_init 9 = .ok (.aload_n 0, 1) := by decide +kernel
theorem dX3_init_10 : decode cX3_init 10 = .ok (.bipush 64, 2) := by decide +kernel
theorem dX3_init_12 : decode cX3_init 12 = .ok (.newarray .int, 2) := by decide +kernel
theorem dX3_init_14 : decode cX3_init 14 = .ok (.putfield 15, 3) := by decide +kernel
theorem dX3_init_17 : decode cX3_init 17 = .ok (.aload_n 0, 1) := by decide +kernel
theorem dX3_init_18 : decode cX3_init 18 = .ok (.bipush 64, 2) := by decide +kernel
theorem dX3_init_20 : decode cX3_init 20 = .ok (.newarray .int, 2) := by decide +kernel
theorem dX3_init_22 : decode cX3_init 22 = .ok (.putfield 19, 3) := by decide +kernel
theorem dX3_init_25 : decode cX3_init 25 = .ok (.aload_n 0, 1) := by decide +kernel
theorem dX3_init_26 : decode cX3_init 26 = .ok (.sipush 512, 3) := by decide +kernel
theorem dX3_init_29 : decode cX3_init 29 = .ok (.newarray .int, 2) := by decide +kernel
theorem dX3_init_31 : decode cX3_init 31 = .ok (.putfield 22, 3) := by decide +kernel
theorem dX3_init_34 : decode cX3_init 34 = .ok (.aload_n 0, 1) := by decide +kernel
theorem dX3_init_35 : decode cX3_init 35 = .ok (.bipush 64, 2) := by decide +kernel
theorem dX3_init_37 : decode cX3_init 37 = .ok (.newarray .int, 2) := by decide +kernel
theorem dX3_init_39 : decode cX3_init 39 = .ok (.putfield 25, 3) := by decide +kernel
theorem dX3_init_42 : decode cX3_init 42 = .ok (.aload_n 0, 1) := by decide +kernel
theorem dX3_init_43 : decode cX3_init 43 = .ok (.bipush 64, 2) := by decide +kernel
theorem dX3_init_45 : decode cX3_init 45 = .ok (.newarray .int, 2) := by decide +kernel
theorem dX3_init_47 : decode cX3_init 47 = .ok (.putfield 28, 3) := by decide +kernel
theorem dX3_init_50 : decode cX3_init 50 = .ok (.aload_n 0, 1) := by decide +kernel
theorem dX3_init_51 : decode cX3_init 51 = .ok (.bipush 64, 2) := by decide +kernel
theorem dX3_init_53 : decode cX3_init 53 = .ok (.newarray .int, 2) := by decide +kernel
theorem dX3_init_55 : decode cX3_init 55 = .ok (.putfield 31, 3) := by decide +kernel
theorem dX3_init_58 : decode cX3_init 58 = .ok (.aload_n 0, 1) := by decide +kernel
theorem dX3_init_59 : decode cX3_init 59 = .ok (.new 34, 3) := by decide +kernel
theorem dX3_init_62 : decode cX3_init 62 = .ok (.dup, 1) := by decide +kernel
theorem dX3_init_63 : decode cX3_init 63 = .ok (.invokespecial 36, 3) := by decide +kernel
theorem dX3_init_66 : decode cX3_init 66 = .ok (.putfield 37, 3) := by decide +kernel
theorem dX3_init_69 : decode cX3_init 69 = .ok (.aload_n 0, 1) := by decide +kernel
theorem dX3_init_70 : decode cX3_init 70 = .ok (.new 41, 3) := by decide +kernel
theorem dX3_init_73 : decode cX3_init 73 = .ok (.dup, 1) := by decide +kernel
theorem dX3_init_74 : decode cX3_init 74 = .ok (.invokespecial 43, 3) := by decide +kernel
theorem dX3_init_77 : decode cX3_init 77 = .ok (.putfield 44, 3) := by decide +kernel
theorem dX3_init_80 : decode cX3_init 80 = .ok (.return_, 1) := by decide +kernel
set_option maxRecDepth 20000 in
theorem ggX3_clear_X1_clear : GoodIn wsX3_clear wsX1_clear := goodIn_r _ [8, 9, 10, 11, 12, 13, 14, 25, 26, 27, 28, 29] (by decide +kernel) (by decide +kernel)
set_option maxRecDepth 20000 in
theorem gX3_clear_X1_clear : GoodIn wsX3_clear (wsV RX3 51 RX1 yX1_clear wsX1_clear) := goodIn_app (goodIn_of _ (by decide +kernel)) ggX3_clear_X1_clear
theorem dX3_clear_0 : decode cX3_clear 0 = .ok (.aload_n 0, 1) := by decide +kernel
theorem dX3_clear_1 : decode cX3_clear 1 = .ok (.iconst 0, 1) := by decide +kernel
theorem dX3_clear_2 : decode cX3_clear 2 = .ok (.putfield 48, 3) := by decide +kernel
theorem dX3_clear_5 : decode cX3_clear 5 = .ok (.aload_n 0, 1) := by decide +kernel
theorem dX3_clear_6 : decode cX3_clear 6 = .ok (.iconst (-1), 1) := by decide +kernel
theorem dX3_clear_7 : decode cX3_clear 7 = .ok (.putfield 9, 3) := by decide +kernel
theorem dX3_clear_10 : decode cX3_clear 10 = .ok (.aload_n 0, 1) := by decide +kernel
theorem dX3_clear_11 : decode cX3_clear 11 = .ok (.getfield 37, 3) := by decide +kernel
theorem dX3_clear_14 : decode cX3_clear 14 = .ok (.invokevirtual 51, 3) := by decide +kernel
theorem dX3_clear_17 : decode cX3_clear 17 = .ok (.return_, 1) := by decide +kernel
theorem dX3_size_0 : decode cX3_size 0 = .ok (.aload_n 0, 1) := by decide +kernel
theorem dX3_size_1 : decode cX3_size 1 = .ok (.getfield 48, 3) := by decide +kernel
theorem dX3_size_4 : decode cX3_size 4 = .ok (.ireturn, 1) := by decide +kernel
theorem dX3_first_0 : decode cX3_first 0 = .ok (.aload_n 0, 1) := by decide +kernel
theorem dX3_first_1 : decode cX3_first 1 = .ok (.getfield 9, 3) := by decide +kernel
theorem dX3_first_4 : decode cX3_first 4 = .ok (.ireturn, 1) := by decide +kernel
set_option maxRecDepth 20000 in
theorem ggX3_instructions_X1_total : GoodIn wsX3_instructions wsX1_total := goodIn_r _ [6, 7, 18, 19, 20, 21, 22] (by decide +kernel) (by decide +kernel)
set_option maxRecDepth 20000 in
theorem gX3_instructions_X1_total : GoodIn wsX3_instructions (wsV RX3 54 RX1 yX1_total wsX1_total) := goodIn_app (goodIn_of _ (by decide +kernel)) ggX3_instructions_X1_total
theorem dX3_instructions_0 : decode cX3_instructions 0 = .ok (.aload_n 0, 1) := by decide +kernel
theorem dX3_instructions_1 : decode cX3_instructions 1 = .ok (.getfield 37, 3) := by decide +kernel
theorem dX3_instructions_4 : decode cX3_instructions 4 = .ok (.invokevirtual 54, 3) := by decide +kernel
theorem dX3_instructions_7 : decode cX3_instructions 7 = .ok (.ireturn, 1) := by decide +kernel
theorem dX3_has_0 : decode cX3_has 0 = .ok (.iload_n 1, 1) := by decide +kernel
theorem dX3_has_1 : decode cX3_has 1 = .ok (.ifCond .lt 21, 3) := by decide +kernel
theorem dX3_has_4 : decode cX3_has 4 = .ok (.iload_n 1, 1) := by decide +kernel
theorem dX3_has_5 : decode cX3_has 5 = .ok (.aload_n 0, 1) := by decide +kernel
theorem dX3_has_6 : decode cX3_has 6 = .ok (.getfield 48, 3) := by decide +kernel
theorem dX3_has_9 : decode cX3_has 9 = .ok (.if_icmp .ge 13, 3) := by decide +kernel
theorem dX3_has_12 : decode cX3_has 12 = .ok (.iload_n 1, 1) := by decide +kernel
theorem dX3_has_13 : decode cX3_has 13 = .ok (.bipush 64, 2) := by decide +kernel
theorem dX3_has_15 : decode cX3_has 15 = .ok (.if_icmp .ge 7, 3) := by decide +kernel
theorem dX3_has_18 : decode cX3_has 18 = .ok (.iconst 1, 1) := by decide +kernel
theorem dX3_has_19 : decode cX3_has 19 = .ok (.goto 4, 3) := by decide +kernel
theorem dX3_has_22 : decode cX3_has 22 = .ok (.iconst 0, 1) := by decide +kernel
theorem dX3_has_23 : decode cX3_has 23 = .ok (.ireturn, 1) := by decide +kernel
set_option maxRecDepth 20000 in
theorem ggX3_read_X3_clear : GoodIn wsX3_read wsX3_clear := goodIn_r _ [13, 5, 14, 6, 15, 16, 17, 18, 19, 20, 21, 22, 23, 24, 25, 178, 179, 180, 181, 182, 183, 184, 185, 186, 187, 188, 189, 190, 191, 192] (by decide +kernel) (by decide +kernel)
set_option maxRecDepth 20000 in
theorem gX3_read_X3_clear : GoodIn wsX3_read (wsV RX3 58 RX3 yX3_clear wsX3_clear) := goodIn_app (goodIn_of _ (by decide +kernel)) ggX3_read_X3_clear
set_option maxRecDepth 20000 in
theorem ggX3_read_X5_number : GoodIn wsX3_read wsX5_number := goodIn_r _ [30, 31, 32, 33, 34, 35, 29, 36, 37, 38, 193, 194, 195, 196] (by decide +kernel) (by decide +kernel)
set_option maxRecDepth 20000 in
theorem gX3_read_X5_number : GoodIn wsX3_read (wsV RX3 59 RX5 yX5_number wsX5_number) := goodIn_app (goodIn_of _ (by decide +kernel)) ggX3_read_X5_number
set_option maxRecDepth 20000 in
theorem ggX3_read_X5_stopped : GoodIn wsX3_read wsX5_stopped := goodIn_r _ [42, 32, 193, 194, 195, 196] (by decide +kernel) (by decide +kernel)
set_option maxRecDepth 20000 in
theorem gX3_read_X5_stopped : GoodIn wsX3_read (wsV RX3 70 RX5 yX5_stopped wsX5_stopped) := goodIn_app (goodIn_of _ (by decide +kernel)) ggX3_read_X5_stopped
set_option maxRecDepth 20000 in
theorem ggX3_read_X0_size : GoodIn wsX3_read wsX0_size := goodIn_r _ [47, 48, 197, 198, 199, 200, 201, 202, 203] (by decide +kernel) (by decide +kernel)
set_option maxRecDepth 20000 in
theorem gX3_read_X0_size : GoodIn wsX3_read (wsV RX3 74 RX0 yX0_size wsX0_size) := goodIn_app (goodIn_of _ (by decide +kernel)) ggX3_read_X0_size
set_option maxRecDepth 20000 in
theorem ggX3_read_X3_readHead : GoodIn wsX3_read wsX3_readHead := goodIn_r _ [52, 53, 54, 7, 55, 56, 57, 58, 59, 29, 60, 61, 62, 63, 64, 31, 33, 34, 35, 36, 37, 38, 65, 27, 28, 30, 32, 66, 67, 68, 12, 69, 70, 1, 2, 3, 4, 26, 71, 72, 73, 74, 75, 76, 77, 78, 79, 178, 179, 180, 181, 182, 183, 184, 185, 186, 187, 193, 194, 195, 196] (by decide +kernel) (by decide +kernel)
set_option maxRecDepth 20000 in
theorem gX3_read_X3_readHead : GoodIn wsX3_read (wsV RX3 79 RX3 yX3_readHead wsX3_readHead) := goodIn_app (goodIn_of _ (by decide +kernel)) ggX3_read_X3_readHead
set_option maxRecDepth 20000 in
theorem ggX3_read_X1_read : GoodIn wsX3_read wsX1_read := goodIn_r _ [83, 84, 2, 3, 4, 85, 86, 87, 20, 88, 89, 90, 29, 91, 32, 65, 27, 28, 30, 31, 33, 34, 35, 36, 37, 38, 92, 93, 94, 95, 96, 40, 41, 42, 97, 98, 99, 18, 100, 101, 102, 103, 104, 105, 106, 107, 108, 109, 110, 111, 112, 113, 114, 115, 116, 117, 118, 119, 120, 121, 122, 123, 124, 125, 21, 126, 127, 128, 129, 130, 44, 45, 46, 47, 48, 131, 132, 133, 134, 135, 136, 137, 138, 139, 140, 141, 142, 143, 144, 145, 146, 147, 148, 149, 150, 62, 63, 64, 151, 152, 153, 154, 155, 188, 189, 190, 191, 192, 193, 194, 195, 196, 197, 198, 199, 200, 201, 202, 203] (by decide +kernel) (by decide +kernel)
set_option maxRecDepth 20000 in
theorem gX3_read_X1_read : GoodIn wsX3_read (wsV RX3 83 RX1 yX1_read wsX1_read) := goodIn_app (goodIn_of _ (by decide +kernel)) ggX3_read_X1_read
set_option maxRecDepth 20000 in
theorem ggX3_read_X2_read : GoodIn wsX3_read wsX2_read := goodIn_r _ [160, 161, 2, 3, 4, 162, 163, 164, 27, 28, 29, 30, 31, 32, 33, 34, 35, 36, 37, 38, 165, 93, 94, 95, 166, 133, 134, 135, 136, 119, 120, 121, 204, 205, 193, 194, 195, 196] (by decide +kernel) (by decide +kernel)
set_option maxRecDepth 20000 in
theorem gX3_read_X2_read : GoodIn wsX3_read (wsV RX3 87 RX2 yX2_read wsX2_read) := goodIn_app (goodIn_of _ (by decide +kernel)) ggX3_read_X2_read
set_option maxRecDepth 20000 in
theorem ggX3_read_X3_readFirst : GoodIn wsX3_read wsX3_readFirst := goodIn_r _ [170, 53, 55, 14, 171, 62, 63, 29, 64, 31, 33, 34, 35, 36, 37, 38, 39, 40, 41, 42, 32, 172, 173, 174, 12, 175, 5, 176, 93, 94, 95, 177, 119, 120, 121, 26, 27, 28, 30, 178, 179, 180, 181, 182, 183, 184, 185, 186, 187, 193, 194, 195, 196] (by decide +kernel) (by decide +kernel)
set_option maxRecDepth 20000 in
theorem gX3_read_X3_readFirst : GoodIn wsX3_read (wsV RX3 89 RX3 yX3_readFirst wsX3_readFirst) := goodIn_app (goodIn_of _ (by decide +kernel)) ggX3_read_X3_readFirst
theorem dX3_read_0 : decode cX3_read 0 = .ok (.aload_n 0, 1) := by decide +kernel
theorem dX3_read_1 : decode cX3_read 1 = .ok (.invokevirtual 58, 3) := by decide +kernel
theorem dX3_read_4 : decode cX3_read 4 = .ok (.aload_n 0, 1) := by decide +kernel
theorem dX3_read_5 : decode cX3_read 5 = .ok (.aload_n 1, 1) := by decide +kernel
theorem dX3_read_6 : decode cX3_read 6 = .ok (.iconst 1, 1) := by decide +kernel
theorem dX3_read_7 : decode cX3_read 7 = .ok (.bipush 64, 2) := by decide +kernel
theorem dX3_read_9 : decode cX3_read 9 = .ok (.invokevirtual 59, 3) := by decide +kernel
theorem dX3_read_12 : decode cX3_read 12 = .ok (.iconst 0, 1) := by decide +kernel
theorem dX3_read_13 : decode cX3_read 13 = .ok (.invokestatic 65, 3) := by decide +kernel
theorem dX3_read_16 : decode cX3_read 16 = .ok (.putfield 48, 3) := by decide +kernel
theorem dX3_read_19 : decode cX3_read 19 = .ok (.iconst 0, 1) := by decide +kernel
theorem dX3_read_20 : decode cX3_read 20 = .ok (.istore_n 3, 1) := by decide +kernel
theorem dX3_read_21 : decode cX3_read 21 = .ok (.iload_n 3, 1) := by decide +kernel
theorem dX3_read_22 : decode cX3_read 22 = .ok (.aload_n 0, 1) := by decide +kernel
theorem dX3_read_23 : decode cX3_read 23 = .ok (.getfield 48, 3) := by decide +kernel
theorem dX3_read_26 : decode cX3_read 26 = .ok (.if_icmp .ge 55, 3) := by decide +kernel
theorem dX3_read_29 : decode cX3_read 29 = .ok (.aload_n 1, 1) := by decide +kernel
theorem dX3_read_30 : decode cX3_read 30 = .ok (.invokevirtual 70, 3) := by decide +kernel
theorem dX3_read_33 : decode cX3_read 33 = .ok (.ifCond .ne 48, 3) := by decide +kernel
theorem dX3_read_36 : decode cX3_read 36 = .ok (.aload_n 0, 1) := by decide +kernel
theorem dX3_read_37 : decode cX3_read 37 = .ok (.aload_n 1, 1) := by decide +kernel
theorem dX3_read_38 : decode cX3_read 38 = .ok (.aload_n 2, 1) := by decide +kernel
theorem dX3_read_39 : decode cX3_read 39 = .ok (.invokevirtual 74, 3) := by decide +kernel
theorem dX3_read_42 : decode cX3_read 42 = .ok (.iload_n 3, 1) := by decide +kernel
theorem dX3_read_43 : decode cX3_read 43 = .ok (.invokevirtual 79, 3) := by decide +kernel
theorem dX3_read_46 : decode cX3_read 46 = .ok (.aload_n 0, 1) := by decide +kernel
theorem dX3_read_47 : decode cX3_read 47 = .ok (.getfield 37, 3) := by decide +kernel
theorem dX3_read_50 : decode cX3_read 50 = .ok (.aload_n 1, 1) := by decide +kernel
theorem dX3_read_51 : decode cX3_read 51 = .ok (.aload_n 2, 1) := by decide +kernel
theorem dX3_read_52 : decode cX3_read 52 = .ok (.iload_n 3, 1) := by decide +kernel
theorem dX3_read_53 : decode cX3_read 53 = .ok (.aload_n 0, 1) := by decide +kernel
theorem dX3_read_54 : decode cX3_read 54 = .ok (.getfield 28, 3) := by decide +kernel
theorem dX3_read_57 : decode cX3_read 57 = .ok (.iload_n 3, 1) := by decide +kernel
theorem dX3_read_58 : decode cX3_read 58 = .ok (.iaload, 1) := by decide +kernel
theorem dX3_read_59 : decode cX3_read 59 = .ok (.invokevirtual 83, 3) := by decide +kernel
theorem dX3_read_62 : decode cX3_read 62 = .ok (.aload_n 0, 1) := by decide +kernel
theorem dX3_read_63 : decode cX3_read 63 = .ok (.getfield 44, 3) := by decide +kernel
theorem dX3_read_66 : decode cX3_read 66 = .ok (.aload_n 1, 1) := by decide +kernel
theorem dX3_read_67 : decode cX3_read 67 = .ok (.aload_n 2, 1) := by decide +kernel
theorem dX3_read_68 : decode cX3_read 68 = .ok (.invokevirtual 74, 3) := by decide +kernel
theorem dX3_read_71 : decode cX3_read 71 = .ok (.iload_n 3, 1) := by decide +kernel
theorem dX3_read_72 : decode cX3_read 72 = .ok (.invokevirtual 87, 3) := by decide +kernel
theorem dX3_read_75 : decode cX3_read 75 = .ok (.iinc 3 1, 3) := by decide +kernel
theorem dX3_read_78 : decode cX3_read 78 = .ok (.goto (-57), 3) := by decide +kernel
theorem dX3_read_81 : decode cX3_read 81 = .ok (.aload_n 0, 1) := by decide +kernel
theorem dX3_read_82 : decode cX3_read 82 = .ok (.aload_n 1, 1) := by decide +kernel
theorem dX3_read_83 : decode cX3_read 83 = .ok (.invokevirtual 89, 3) := by decide +kernel
theorem dX3_read_86 : decode cX3_read 86 = .ok (.return_, 1) := by decide +kernel
set_option maxRecDepth 20000 in
theorem ggX3_readHead_X5_numberOrNothing : GoodIn wsX3_readHead wsX5_numberOrNothing := goodIn_r _ [10, 11, 12, 13, 9, 14, 15, 16, 17, 18, 19, 20, 21, 22, 23, 24, 25, 26, 57, 58, 59, 60] (by decide +kernel) (by decide +kernel)
set_option maxRecDepth 20000 in
theorem gX3_readHead_X5_numberOrNothing : GoodIn wsX3_readHead (wsV RX3 93 RX5 yX5_numberOrNothing wsX5_numberOrNothing) := goodIn_app (goodIn_of _ (by decide +kernel)) ggX3_readHead_X5_numberOrNothing
set_option maxRecDepth 20000 in
theorem ggX3_readHead_X3_readParameters : GoodIn wsX3_readHead wsX3_readParameters := goodIn_r _ [31, 1, 32, 33, 34, 35, 36, 4, 37, 23, 24, 9, 25, 15, 26, 16, 17, 18, 19, 20, 21, 38, 39, 40, 41, 11, 12, 13, 14, 22, 47, 48, 49, 50, 51, 52, 53, 54, 55, 56, 57, 58, 59, 60] (by decide +kernel) (by decide +kernel)
set_option maxRecDepth 20000 in
theorem gX3_readHead_X3_readParameters : GoodIn wsX3_readHead (wsV RX3 97 RX3 yX3_readParameters wsX3_readParameters) := goodIn_app (goodIn_of _ (by decide +kernel)) ggX3_readHead_X3_readParameters
set_option maxRecDepth 20000 in
theorem ggX3_readHead_X5_typeOrNothing : GoodIn wsX3_readHead wsX5_typeOrNothing := goodIn_r _ [45, 11, 12, 13, 9, 14, 15, 16, 17, 18, 19, 20, 21, 22, 23, 24, 25, 26, 46, 39, 40, 41, 57, 58, 59, 60] (by decide +kernel) (by decide +kernel)
set_option maxRecDepth 20000 in
theorem gX3_readHead_X5_typeOrNothing : GoodIn wsX3_readHead (wsV RX3 100 RX5 yX5_typeOrNothing wsX5_typeOrNothing) := goodIn_app (goodIn_of _ (by decide +kernel)) ggX3_readHead_X5_typeOrNothing
set_option maxRecDepth 20000 in
theorem ggX3_readHead_X5_number : GoodIn wsX3_readHead wsX5_number := goodIn_r _ [25, 15, 26, 16, 17, 18, 9, 19, 20, 21, 57, 58, 59, 60] (by decide +kernel) (by decide +kernel)
set_option maxRecDepth 20000 in
theorem gX3_readHead_X5_number : GoodIn wsX3_readHead (wsV RX3 59 RX5 yX5_number wsX5_number) := goodIn_app (goodIn_of _ (by decide +kernel)) ggX3_readHead_X5_number
theorem dX3_readHead_0 : decode cX3_readHead 0 = .ok (.aload_n 1, 1) := by decide +kernel
theorem dX3_readHead_1 : decode cX3_readHead 1 = .ok (.iload_n 2, 1) := by decide +kernel
theorem dX3_readHead_2 : decode cX3_readHead 2 = .ok (.iconst 1, 1) := by decide +kernel
theorem dX3_readHead_3 : decode cX3_readHead 3 = .ok (.isub, 1) := by decide +kernel
theorem dX3_readHead_4 : decode cX3_readHead 4 = .ok (.invokevirtual 93, 3) := by decide +kernel
theorem dX3_readHead_7 : decode cX3_readHead 7 = .ok (.istore 4, 2) := by decide +kernel
theorem dX3_readHead_9 : decode cX3_readHead 9 = .ok (.aload_n 0, 1) := by decide +kernel
theorem dX3_readHead_10 : decode cX3_readHead 10 = .ok (.getfield 15, 3) := by decide +kernel
theorem dX3_readHead_13 : decode cX3_readHead 13 = .ok (.iload_n 3, 1) := by decide +kernel
theorem dX3_readHead_14 : decode cX3_readHead 14 = .ok (.iload 4, 2) := by decide +kernel
theorem dX3_readHead_16 : decode cX3_readHead 16 = .ok (.sipush 255, 3) := by decide +kernel
theorem dX3_readHead_19 : decode cX3_readHead 19 = .ok (.if_icmp .ne 7, 3) := by decide +kernel
theorem dX3_readHead_22 : decode cX3_readHead 22 = .ok (.iconst (-1), 1) := by decide +kernel
theorem dX3_readHead_23 : decode cX3_readHead 23 = .ok (.goto 5, 3) := by decide +kernel
theorem dX3_readHead_26 : decode cX3_readHead 26 = .ok (.iload 4, 2) := by decide +kernel
theorem dX3_readHead_28 : decode cX3_readHead 28 = .ok (.iastore, 1) := by decide +kernel
theorem dX3_readHead_29 : decode cX3_readHead 29 = .ok (.aload_n 0, 1) := by decide +kernel
theorem dX3_readHead_30 : decode cX3_readHead 30 = .ok (.aload_n 1, 1) := by decide +kernel
theorem dX3_readHead_31 : decode cX3_readHead 31 = .ok (.iload_n 2, 1) := by decide +kernel
theorem dX3_readHead_32 : decode cX3_readHead 32 = .ok (.iload_n 3, 1) := by decide +kernel
theorem dX3_readHead_33 : decode cX3_readHead 33 = .ok (.invokevirtual 97, 3) := by decide +kernel
theorem dX3_readHead_36 : decode cX3_readHead 36 = .ok (.aload_n 1, 1) := by decide +kernel
theorem dX3_readHead_37 : decode cX3_readHead 37 = .ok (.iload_n 2, 1) := by decide +kernel
theorem dX3_readHead_38 : decode cX3_readHead 38 = .ok (.invokevirtual 100, 3) := by decide +kernel
theorem dX3_readHead_41 : decode cX3_readHead 41 = .ok (.istore 5, 2) := by decide +kernel
theorem dX3_readHead_43 : decode cX3_readHead 43 = .ok (.aload_n 0, 1) := by decide +kernel
theorem dX3_readHead_44 : decode cX3_readHead 44 = .ok (.getfield 25, 3) := by decide +kernel
theorem dX3_readHead_47 : decode cX3_readHead 47 = .ok (.iload_n 3, 1) := by decide +kernel
theorem dX3_readHead_48 : decode cX3_readHead 48 = .ok (.iload 5, 2) := by decide +kernel
theorem dX3_readHead_50 : decode cX3_readHead 50 = .ok (.sipush 255, 3) := by decide +kernel
theorem dX3_readHead_53 : decode cX3_readHead 53 = .ok (.if_icmp .ne 7, 3) := by decide +kernel
theorem dX3_readHead_56 : decode cX3_readHead 56 = .ok (.iconst (-1), 1) := by decide +kernel
theorem dX3_readHead_57 : decode cX3_readHead 57 = .ok (.goto 5, 3) := by decide +kernel
theorem dX3_readHead_60 : decode cX3_readHead 60 = .ok (.iload 5, 2) := by decide +kernel
theorem dX3_readHead_62 : decode cX3_readHead 62 = .ok (.iastore, 1) := by decide +kernel
theorem dX3_readHead_63 : decode cX3_readHead 63 = .ok (.aload_n 0, 1) := by decide +kernel
theorem dX3_readHead_64 : decode cX3_readHead 64 = .ok (.getfield 28, 3) := by decide +kernel
theorem dX3_readHead_67 : decode cX3_readHead 67 = .ok (.iload_n 3, 1) := by decide +kernel
theorem dX3_readHead_68 : decode cX3_readHead 68 = .ok (.aload_n 1, 1) := by decide +kernel
theorem dX3_readHead_69 : decode cX3_readHead 69 = .ok (.aload_n 0, 1) := by decide +kernel
theorem dX3_readHead_70 : decode cX3_readHead 70 = .ok (.getfield 19, 3) := by decide +kernel
theorem dX3_readHead_73 : decode cX3_readHead 73 = .ok (.iload_n 3, 1) := by decide +kernel
theorem dX3_readHead_74 : decode cX3_readHead 74 = .ok (.iaload, 1) := by decide +kernel
theorem dX3_readHead_75 : decode cX3_readHead 75 = .ok (.bipush 12, 2) := by decide +kernel
theorem dX3_readHead_77 : decode cX3_readHead 77 = .ok (.invokevirtual 59, 3) := by decide +kernel
theorem dX3_readHead_80 : decode cX3_readHead 80 = .ok (.iastore, 1) := by decide +kernel
theorem dX3_readHead_81 : decode cX3_readHead 81 = .ok (.aload_n 0, 1) := by decide +kernel
theorem dX3_readHead_82 : decode cX3_readHead 82 = .ok (.getfield 31, 3) := by decide +kernel
theorem dX3_readHead_85 : decode cX3_readHead 85 = .ok (.iload_n 3, 1) := by decide +kernel
theorem dX3_readHead_86 : decode cX3_readHead 86 = .ok (.aload_n 1, 1) := by decide +kernel
theorem dX3_readHead_87 : decode cX3_readHead 87 = .ok (.iconst 0, 1) := by decide +kernel
theorem dX3_readHead_88 : decode cX3_readHead 88 = .ok (.bipush 12, 2) := by decide +kernel
theorem dX3_readHead_90 : decode cX3_readHead 90 = .ok (.aload_n 0, 1) := by decide +kernel
theorem dX3_readHead_91 : decode cX3_readHead 91 = .ok (.getfield 28, 3) := by decide +kernel
theorem dX3_readHead_94 : decode cX3_readHead 94 = .ok (.iload_n 3, 1) := by decide +kernel
theorem dX3_readHead_95 : decode cX3_readHead 95 = .ok (.iaload, 1) := by decide +kernel
theorem dX3_readHead_96 : decode cX3_readHead 96 = .ok (.isub, 1) := by decide +kernel
theorem dX3_readHead_97 : decode cX3_readHead 97 = .ok (.invokevirtual 59, 3) := by decide +kernel
theorem dX3_readHead_100 : decode cX3_readHead 100 = .ok (.iastore, 1) := by decide +kernel
theorem dX3_readHead_101 : decode cX3_readHead 101 = .ok (.return_, 1) := by decide +kernel
set_option maxRecDepth 20000 in
theorem ggX3_readParameters_X5_number : GoodIn wsX3_readParameters wsX5_number := goodIn_r _ [12, 13, 14, 15, 16, 17, 11, 18, 19, 20, 40, 41, 42, 43] (by decide +kernel) (by decide +kernel)
set_option maxRecDepth 20000 in
theorem gX3_readParameters_X5_number : GoodIn wsX3_readParameters (wsV RX3 59 RX5 yX5_number wsX5_number) := goodIn_app (goodIn_of _ (by decide +kernel)) ggX3_readParameters_X5_number
set_option maxRecDepth 20000 in
theorem ggX3_readParameters_X5_type : GoodIn wsX3_readParameters wsX5_type := goodIn_r _ [24, 25, 26, 27, 11, 28, 13, 15, 16, 17, 18, 19, 20, 29, 9, 10, 12, 14, 40, 41, 42, 43] (by decide +kernel) (by decide +kernel)
set_option maxRecDepth 20000 in
theorem gX3_readParameters_X5_type : GoodIn wsX3_readParameters (wsV RX3 103 RX5 yX5_type wsX5_type) := goodIn_app (goodIn_of _ (by decide +kernel)) ggX3_readParameters_X5_type
theorem dX3_readParameters_0 : decode cX3_readParameters 0 = .ok (.aload_n 0, 1) := by decide +kernel
theorem dX3_readParameters_1 : decode cX3_readParameters 1 = .ok (.getfield 15, 3) := by decide +kernel
theorem dX3_readParameters_4 : decode cX3_readParameters 4 = .ok (.iload_n 3, 1) := by decide +kernel
theorem dX3_readParameters_5 : decode cX3_readParameters 5 = .ok (.iaload, 1) := by decide +kernel
theorem dX3_readParameters_6 : decode cX3_readParameters 6 = .ok (.iconst (-1), 1) := by decide +kernel
theorem dX3_readParameters_7 : decode cX3_readParameters 7 = .ok (.if_icmp .ne 7, 3) := by decide +kernel
theorem dX3_readParameters_10 : decode cX3_readParameters 10 = .ok (.iconst 0, 1) := by decide +kernel
theorem dX3_readParameters_11 : decode cX3_readParameters 11 = .ok (.goto 4, 3) := by decide +kernel
theorem dX3_readParameters_14 : decode cX3_readParameters 14 = .ok (.iconst 1, 1) := by decide +kernel
theorem dX3_readParameters_15 : decode cX3_readParameters 15 = .ok (.istore 4, 2) := by decide +kernel
theorem dX3_readParameters_17 : decode cX3_readParameters 17 = .ok (.iload 4, 2) := by decide +kernel
theorem dX3_readParameters_19 : decode cX3_readParameters 19 = .ok (.iconst 1, 1) := by decide +kernel
theorem dX3_readParameters_20 : decode cX3_readParameters 20 = .ok (.if_icmp .ne 20, 3) := by decide +kernel
theorem dX3_readParameters_23 : decode cX3_readParameters 23 = .ok (.aload_n 0, 1) := by decide +kernel
theorem dX3_readParameters_24 : decode cX3_readParameters 24 = .ok (.getfield 22, 3) := by decide +kernel
theorem dX3_readParameters_27 : decode cX3_readParameters 27 = .ok (.iload_n 3, 1) := by decide +kernel
theorem dX3_readParameters_28 : decode cX3_readParameters 28 = .ok (.bipush 8, 2) := by decide +kernel
theorem dX3_readParameters_30 : decode cX3_readParameters 30 = .ok (.imul, 1) := by decide +kernel
theorem dX3_readParameters_31 : decode cX3_readParameters 31 = .ok (.aload_n 0, 1) := by decide +kernel
theorem dX3_readParameters_32 : decode cX3_readParameters 32 = .ok (.getfield 15, 3) := by decide +kernel
theorem dX3_readParameters_35 : decode cX3_readParameters 35 = .ok (.iload_n 3, 1) := by decide +kernel
theorem dX3_readParameters_36 : decode cX3_readParameters 36 = .ok (.iaload, 1) := by decide +kernel
theorem dX3_readParameters_37 : decode cX3_readParameters 37 = .ok (.iconst 1, 1) := by decide +kernel
theorem dX3_readParameters_38 : decode cX3_readParameters 38 = .ok (.iadd, 1) := by decide +kernel
theorem dX3_readParameters_39 : decode cX3_readParameters 39 = .ok (.iastore, 1) := by decide +kernel
theorem dX3_readParameters_40 : decode cX3_readParameters 40 = .ok (.aload_n 1, 1) := by decide +kernel
theorem dX3_readParameters_41 : decode cX3_readParameters 41 = .ok (.iconst 0, 1) := by decide +kernel
theorem dX3_readParameters_42 : decode cX3_readParameters 42 = .ok (.bipush 7, 2) := by decide +kernel
theorem dX3_readParameters_44 : decode cX3_readParameters 44 = .ok (.invokevirtual 59, 3) := by decide +kernel
theorem dX3_readParameters_47 : decode cX3_readParameters 47 = .ok (.iconst 0, 1) := by decide +kernel
theorem dX3_readParameters_48 : decode cX3_readParameters 48 = .ok (.invokestatic 65, 3) := by decide +kernel
theorem dX3_readParameters_51 : decode cX3_readParameters 51 = .ok (.istore 5, 2) := by decide +kernel
theorem dX3_readParameters_53 : decode cX3_readParameters 53 = .ok (.iconst 0, 1) := by decide +kernel
theorem dX3_readParameters_54 : decode cX3_readParameters 54 = .ok (.istore 6, 2) := by decide +kernel
theorem dX3_readParameters_56 : decode cX3_readParameters 56 = .ok (.iload 6, 2) := by decide +kernel
theorem dX3_readParameters_58 : decode cX3_readParameters 58 = .ok (.iload 5, 2) := by decide +kernel
theorem dX3_readParameters_60 : decode cX3_readParameters 60 = .ok (.if_icmp .ge 29, 3) := by decide +kernel
theorem dX3_readParameters_63 : decode cX3_readParameters 63 = .ok (.aload_n 0, 1) := by decide +kernel
theorem dX3_readParameters_64 : decode cX3_readParameters 64 = .ok (.getfield 22, 3) := by decide +kernel
theorem dX3_readParameters_67 : decode cX3_readParameters 67 = .ok (.iload_n 3, 1) := by decide +kernel
theorem dX3_readParameters_68 : decode cX3_readParameters 68 = .ok (.bipush 8, 2) := by decide +kernel
theorem dX3_readParameters_70 : decode cX3_readParameters 70 = .ok (.imul, 1) := by decide +kernel
theorem dX3_readParameters_71 : decode cX3_readParameters 71 = .ok (.iload 4, 2) := by decide +kernel
theorem dX3_readParameters_73 : decode cX3_readParameters 73 = .ok (.iadd, 1) := by decide +kernel
theorem dX3_readParameters_74 : decode cX3_readParameters 74 = .ok (.iload 6, 2) := by decide +kernel
theorem dX3_readParameters_76 : decode cX3_readParameters 76 = .ok (.iadd, 1) := by decide +kernel
theorem dX3_readParameters_77 : decode cX3_readParameters 77 = .ok (.aload_n 1, 1) := by decide +kernel
theorem dX3_readParameters_78 : decode cX3_readParameters 78 = .ok (.iload_n 2, 1) := by decide +kernel
theorem dX3_readParameters_79 : decode cX3_readParameters 79 = .ok (.invokevirtual 103, 3) := by decide +kernel
theorem dX3_readParameters_82 : decode cX3_readParameters 82 = .ok (.iastore, 1) := by decide +kernel
theorem dX3_readParameters_83 : decode cX3_readParameters 83 = .ok (.iinc 6 1, 3) := by decide +kernel
theorem dX3_readParameters_86 : decode cX3_readParameters 86 = .ok (.goto (-30), 3) := by decide +kernel
theorem dX3_readParameters_89 : decode cX3_readParameters 89 = .ok (.aload_n 0, 1) := by decide +kernel
theorem dX3_readParameters_90 : decode cX3_readParameters 90 = .ok (.getfield 19, 3) := by decide +kernel
theorem dX3_readParameters_93 : decode cX3_readParameters 93 = .ok (.iload_n 3, 1) := by decide +kernel
theorem dX3_readParameters_94 : decode cX3_readParameters 94 = .ok (.iload 4, 2) := by decide +kernel
theorem dX3_readParameters_96 : decode cX3_readParameters 96 = .ok (.iload 5, 2) := by decide +kernel
theorem dX3_readParameters_98 : decode cX3_readParameters 98 = .ok (.iadd, 1) := by decide +kernel
theorem dX3_readParameters_99 : decode cX3_readParameters 99 = .ok (.iastore, 1) := by decide +kernel
theorem dX3_readParameters_100 : decode cX3_readParameters 100 = .ok (.return_, 1) := by decide +kernel
set_option maxRecDepth 20000 in
theorem ggX3_readFirst_X5_next : GoodIn wsX3_readFirst wsX5_next := goodIn_r _ [8, 9, 10, 11, 12, 7, 13, 14, 15, 49, 50, 51, 52] (by decide +kernel) (by decide +kernel)
set_option maxRecDepth 20000 in
theorem gX3_readFirst_X5_next : GoodIn wsX3_readFirst (wsV RX3 106 RX5 yX5_next wsX5_next) := goodIn_app (goodIn_of _ (by decide +kernel)) ggX3_readFirst_X5_next
set_option maxRecDepth 20000 in
theorem ggX3_readFirst_X5_stopped : GoodIn wsX3_readFirst wsX5_stopped := goodIn_r _ [19, 20, 49, 50, 51, 52] (by decide +kernel) (by decide +kernel)
set_option maxRecDepth 20000 in
theorem gX3_readFirst_X5_stopped : GoodIn wsX3_readFirst (wsV RX3 70 RX5 yX5_stopped wsX5_stopped) := goodIn_app (goodIn_of _ (by decide +kernel)) ggX3_readFirst_X5_stopped
set_option maxRecDepth 20000 in
theorem ggX3_readFirst_X3_has : GoodIn wsX3_readFirst wsX3_has := goodIn_r _ [25, 26, 39, 40, 41, 42, 43, 44, 45, 46, 47, 48] (by decide +kernel) (by decide +kernel)
set_option maxRecDepth 20000 in
theorem gX3_readFirst_X3_has : GoodIn wsX3_readFirst (wsV RX3 109 RX3 yX3_has wsX3_has) := goodIn_app (goodIn_of _ (by decide +kernel)) ggX3_readFirst_X3_has
set_option maxRecDepth 20000 in
theorem ggX3_readFirst_X5_place : GoodIn wsX3_readFirst wsX5_place := goodIn_r _ [30, 9, 49, 50, 51, 52] (by decide +kernel) (by decide +kernel)
set_option maxRecDepth 20000 in
theorem gX3_readFirst_X5_place : GoodIn wsX3_readFirst (wsV RX3 113 RX5 yX5_place wsX5_place) := goodIn_app (goodIn_of _ (by decide +kernel)) ggX3_readFirst_X5_place
set_option maxRecDepth 20000 in
theorem ggX3_readFirst_X5_stopAt : GoodIn wsX3_readFirst wsX5_stopAt := goodIn_r _ [34, 9, 20, 49, 50, 51, 52] (by decide +kernel) (by decide +kernel)
set_option maxRecDepth 20000 in
theorem gX3_readFirst_X5_stopAt : GoodIn wsX3_readFirst (wsV RX3 116 RX5 yX5_stopAt wsX5_stopAt) := goodIn_app (goodIn_of _ (by decide +kernel)) ggX3_readFirst_X5_stopAt
set_option maxRecDepth 20000 in
theorem ggX3_readFirst_X5_number : GoodIn wsX3_readFirst wsX5_number := goodIn_r _ [38, 9, 20, 10, 11, 12, 7, 13, 14, 15, 49, 50, 51, 52] (by decide +kernel) (by decide +kernel)
set_option maxRecDepth 20000 in
theorem gX3_readFirst_X5_number : GoodIn wsX3_readFirst (wsV RX3 59 RX5 yX5_number wsX5_number) := goodIn_app (goodIn_of _ (by decide +kernel)) ggX3_readFirst_X5_number
theorem dX3_readFirst_0 : decode cX3_readFirst 0 = .ok (.aload_n 1, 1) := by decide +kernel
theorem dX3_readFirst_1 : decode cX3_readFirst 1 = .ok (.invokevirtual 106, 3) := by decide +kernel
theorem dX3_readFirst_4 : decode cX3_readFirst 4 = .ok (.istore_n 2, 1) := by decide +kernel
theorem dX3_readFirst_5 : decode cX3_readFirst 5 = .ok (.aload_n 1, 1) := by decide +kernel
theorem dX3_readFirst_6 : decode cX3_readFirst 6 = .ok (.invokevirtual 70, 3) := by decide +kernel
theorem dX3_readFirst_9 : decode cX3_readFirst 9 = .ok (.ifCond .eq 4, 3) := by decide +kernel
theorem dX3_readFirst_12 : decode cX3_readFirst 12 = .ok (.return_, 1) := by decide +kernel
theorem dX3_readFirst_13 : decode cX3_readFirst 13 = .ok (.aload_n 0, 1) := by decide +kernel
theorem dX3_readFirst_14 : decode cX3_readFirst 14 = .ok (.iload_n 2, 1) := by decide +kernel
theorem dX3_readFirst_15 : decode cX3_readFirst 15 = .ok (.invokevirtual 109, 3) := by decide +kernel
theorem dX3_readFirst_18 : decode cX3_readFirst 18 = .ok (.ifCond .eq 22, 3) := by decide +kernel
theorem dX3_readFirst_21 : decode cX3_readFirst 21 = .ok (.aload_n 0, 1) := by decide +kernel
theorem dX3_readFirst_22 : decode cX3_readFirst 22 = .ok (.getfield 15, 3) := by decide +kernel
theorem dX3_readFirst_25 : decode cX3_readFirst 25 = .ok (.iload_n 2, 1) := by decide +kernel
theorem dX3_readFirst_26 : decode cX3_readFirst 26 = .ok (.iaload, 1) := by decide +kernel
theorem dX3_readFirst_27 : decode cX3_readFirst 27 = .ok (.iconst (-1), 1) := by decide +kernel
theorem dX3_readFirst_28 : decode cX3_readFirst 28 = .ok (.if_icmp .ne 12, 3) := by decide +kernel
theorem dX3_readFirst_31 : decode cX3_readFirst 31 = .ok (.aload_n 0, 1) := by decide +kernel
theorem dX3_readFirst_32 : decode cX3_readFirst 32 = .ok (.getfield 19, 3) := by decide +kernel
theorem dX3_readFirst_35 : decode cX3_readFirst 35 = .ok (.iload_n 2, 1) := by decide +kernel
theorem dX3_readFirst_36 : decode cX3_readFirst 36 = .ok (.iaload, 1) := by decide +kernel
theorem dX3_readFirst_37 : decode cX3_readFirst 37 = .ok (.ifCond .eq 12, 3) := by decide +kernel
theorem dX3_readFirst_40 : decode cX3_readFirst 40 = .ok (.aload_n 1, 1) := by decide +kernel
theorem dX3_readFirst_41 : decode cX3_readFirst 41 = .ok (.aload_n 1, 1) := by decide +kernel
theorem dX3_readFirst_42 : decode cX3_readFirst 42 = .ok (.invokevirtual 113, 3) := by decide +kernel
theorem dX3_readFirst_45 : decode cX3_readFirst 45 = .ok (.invokevirtual 116, 3) := by decide +kernel
theorem dX3_readFirst_48 : decode cX3_readFirst 48 = .ok (.return_, 1) := by decide +kernel
theorem dX3_readFirst_49 : decode cX3_readFirst 49 = .ok (.aload_n 0, 1) := by decide +kernel
theorem dX3_readFirst_50 : decode cX3_readFirst 50 = .ok (.aload_n 1, 1) := by decide +kernel
theorem dX3_readFirst_51 : decode cX3_readFirst 51 = .ok (.iload_n 2, 1) := by decide +kernel
theorem dX3_readFirst_52 : decode cX3_readFirst 52 = .ok (.iload_n 2, 1) := by decide +kernel
theorem dX3_readFirst_53 : decode cX3_readFirst 53 = .ok (.invokevirtual 59, 3) := by decide +kernel
theorem dX3_readFirst_56 : decode cX3_readFirst 56 = .ok (.putfield 9, 3) := by decide +kernel
theorem dX3_readFirst_59 : decode cX3_readFirst 59 = .ok (.return_, 1) := by decide +kernel
set_option maxRecDepth 20000 in
theorem ggX3_fact_X3_has : GoodIn wsX3_fact wsX3_has := goodIn_r _ [12, 13, 65, 66, 67, 68, 69, 70, 71, 72, 73, 74] (by decide +kernel) (by decide +kernel)
set_option maxRecDepth 20000 in
theorem gX3_fact_X3_has : GoodIn wsX3_fact (wsV RX3 109 RX3 yX3_has wsX3_has) := goodIn_app (goodIn_of _ (by decide +kernel)) ggX3_fact_X3_has
set_option maxRecDepth 20000 in
theorem ggX3_fact_X3_parameterType : GoodIn wsX3_fact wsX3_parameterType := goodIn_r _ [17, 2, 18, 65, 66, 67, 68, 69, 70, 71, 72, 73, 74] (by decide +kernel) (by decide +kernel)
set_option maxRecDepth 20000 in
theorem gX3_fact_X3_parameterType : GoodIn wsX3_fact (wsV RX3 120 RX3 yX3_parameterType wsX3_parameterType) := goodIn_app (goodIn_of _ (by decide +kernel)) ggX3_fact_X3_parameterType
set_option maxRecDepth 20000 in
theorem ggX3_fact_X1_length : GoodIn wsX3_fact wsX1_length := goodIn_r _ [23, 24, 75, 76, 77, 78, 79] (by decide +kernel) (by decide +kernel)
set_option maxRecDepth 20000 in
theorem gX3_fact_X1_length : GoodIn wsX3_fact (wsV RX3 123 RX1 yX1_length wsX1_length) := goodIn_app (goodIn_of _ (by decide +kernel)) ggX3_fact_X1_length
set_option maxRecDepth 20000 in
theorem ggX3_fact_X1_size : GoodIn wsX3_fact wsX1_size := goodIn_r _ [28, 29, 75, 76, 77, 78, 79] (by decide +kernel) (by decide +kernel)
set_option maxRecDepth 20000 in
theorem gX3_fact_X1_size : GoodIn wsX3_fact (wsV RX3 126 RX1 yX1_size wsX1_size) := goodIn_app (goodIn_of _ (by decide +kernel)) ggX3_fact_X1_size
set_option maxRecDepth 20000 in
theorem ggX3_fact_X1_placeOf : GoodIn wsX3_fact wsX1_placeOf := goodIn_r _ [33, 34, 35, 26, 27, 22, 28, 29, 36, 37, 38, 39, 40, 41, 42, 43, 44, 45, 46, 47, 48, 49, 50, 51, 52, 53, 54, 55, 56, 57, 58, 75, 76, 77, 78, 79, 80, 81, 82, 83] (by decide +kernel) (by decide +kernel)
set_option maxRecDepth 20000 in
theorem gX3_fact_X1_placeOf : GoodIn wsX3_fact (wsV RX3 128 RX1 yX1_placeOf wsX1_placeOf) := goodIn_app (goodIn_of _ (by decide +kernel)) ggX3_fact_X1_placeOf
set_option maxRecDepth 20000 in
theorem ggX3_fact_X2_size : GoodIn wsX3_fact wsX2_size := goodIn_r _ [63, 64, 84, 85] (by decide +kernel) (by decide +kernel)
set_option maxRecDepth 20000 in
theorem gX3_fact_X2_size : GoodIn wsX3_fact (wsV RX3 132 RX2 yX2_size wsX2_size) := goodIn_app (goodIn_of _ (by decide +kernel)) ggX3_fact_X2_size
theorem dX3_fact_0 : decode cX3_fact 0 = .ok (.aload_n 0, 1) := by decide +kernel
theorem dX3_fact_1 : decode cX3_fact 1 = .ok (.iload_n 2, 1) := by decide +kernel
theorem dX3_fact_2 : decode cX3_fact 2 = .ok (.invokevirtual 109, 3) := by decide +kernel
theorem dX3_fact_5 : decode cX3_fact 5 = .ok (.ifCond .ne 5, 3) := by decide +kernel
theorem dX3_fact_8 : decode cX3_fact 8 = .ok (.iconst (-1), 1) := by decide +kernel
theorem dX3_fact_9 : decode cX3_fact 9 = .ok (.ireturn, 1) := by decide +kernel
theorem dX3_fact_10 : decode cX3_fact 10 = .ok (.iload_n 3, 1) := by decide +kernel
theorem dX3_fact_11 : decode cX3_fact 11 = .ok (.tableswitch 135 0 9 #[53, 60, 67, 75, 82, 89, 96, 105, 114, 126], 53) := by decide +kernel
theorem dX3_fact_64 : decode cX3_fact 64 = .ok (.aload_n 0, 1) := by decide +kernel
theorem dX3_fact_65 : decode cX3_fact 65 = .ok (.getfield 15, 3) := by decide +kernel
theorem dX3_fact_68 : decode cX3_fact 68 = .ok (.iload_n 2, 1) := by decide +kernel
theorem dX3_fact_69 : decode cX3_fact 69 = .ok (.iaload, 1) := by decide +kernel
theorem dX3_fact_70 : decode cX3_fact 70 = .ok (.ireturn, 1) := by decide +kernel
theorem dX3_fact_71 : decode cX3_fact 71 = .ok (.aload_n 0, 1) := by decide +kernel
theorem dX3_fact_72 : decode cX3_fact 72 = .ok (.getfield 19, 3) := by decide +kernel
theorem dX3_fact_75 : decode cX3_fact 75 = .ok (.iload_n 2, 1) := by decide +kernel
theorem dX3_fact_76 : decode cX3_fact 76 = .ok (.iaload, 1) := by decide +kernel
theorem dX3_fact_77 : decode cX3_fact 77 = .ok (.ireturn, 1) := by decide +kernel
theorem dX3_fact_78 : decode cX3_fact 78 = .ok (.aload_n 0, 1) := by decide +kernel
theorem dX3_fact_79 : decode cX3_fact 79 = .ok (.iload_n 2, 1) := by decide +kernel
theorem dX3_fact_80 : decode cX3_fact 80 = .ok (.iload 4, 2) := by decide +kernel
theorem dX3_fact_82 : decode cX3_fact 82 = .ok (.invokevirtual 120, 3) := by decide +kernel
theorem dX3_fact_85 : decode cX3_fact 85 = .ok (.ireturn, 1) := by decide +kernel
theorem dX3_fact_86 : decode cX3_fact 86 = .ok (.aload_n 0, 1) := by decide +kernel
theorem dX3_fact_87 : decode cX3_fact 87 = .ok (.getfield 25, 3) := by decide +kernel
theorem dX3_fact_90 : decode cX3_fact 90 = .ok (.iload_n 2, 1) := by decide +kernel
theorem dX3_fact_91 : decode cX3_fact 91 = .ok (.iaload, 1) := by decide +kernel
theorem dX3_fact_92 : decode cX3_fact 92 = .ok (.ireturn, 1) := by decide +kernel
theorem dX3_fact_93 : decode cX3_fact 93 = .ok (.aload_n 0, 1) := by decide +kernel
theorem dX3_fact_94 : decode cX3_fact 94 = .ok (.getfield 28, 3) := by decide +kernel
theorem dX3_fact_97 : decode cX3_fact 97 = .ok (.iload_n 2, 1) := by decide +kernel
theorem dX3_fact_98 : decode cX3_fact 98 = .ok (.iaload, 1) := by decide +kernel
theorem dX3_fact_99 : decode cX3_fact 99 = .ok (.ireturn, 1) := by decide +kernel
theorem dX3_fact_100 : decode cX3_fact 100 = .ok (.aload_n 0, 1) := by decide +kernel
theorem dX3_fact_101 : decode cX3_fact 101 = .ok (.getfield 31, 3) := by decide +kernel
theorem dX3_fact_104 : decode cX3_fact 104 = .ok (.iload_n 2, 1) := by decide +kernel
theorem dX3_fact_105 : decode cX3_fact 105 = .ok (.iaload, 1) := by decide +kernel
theorem dX3_fact_106 : decode cX3_fact 106 = .ok (.ireturn, 1) := by decide +kernel
theorem dX3_fact_107 : decode cX3_fact 107 = .ok (.aload_n 0, 1) := by decide +kernel
theorem dX3_fact_108 : decode cX3_fact 108 = .ok (.getfield 37, 3) := by decide +kernel
theorem dX3_fact_111 : decode cX3_fact 111 = .ok (.iload_n 2, 1) := by decide +kernel
theorem dX3_fact_112 : decode cX3_fact 112 = .ok (.invokevirtual 123, 3) := by decide +kernel
theorem dX3_fact_115 : decode cX3_fact 115 = .ok (.ireturn, 1) := by decide +kernel
theorem dX3_fact_116 : decode cX3_fact 116 = .ok (.aload_n 0, 1) := by decide +kernel
theorem dX3_fact_117 : decode cX3_fact 117 = .ok (.getfield 37, 3) := by decide +kernel
theorem dX3_fact_120 : decode cX3_fact 120 = .ok (.iload_n 2, 1) := by decide +kernel
theorem dX3_fact_121 : decode cX3_fact 121 = .ok (.invokevirtual 126, 3) := by decide +kernel
theorem dX3_fact_124 : decode cX3_fact 124 = .ok (.ireturn, 1) := by decide +kernel
theorem dX3_fact_125 : decode cX3_fact 125 = .ok (.aload_n 0, 1) := by decide +kernel
theorem dX3_fact_126 : decode cX3_fact 126 = .ok (.getfield 37, 3) := by decide +kernel
theorem dX3_fact_129 : decode cX3_fact 129 = .ok (.aload_n 1, 1) := by decide +kernel
theorem dX3_fact_130 : decode cX3_fact 130 = .ok (.iload_n 2, 1) := by decide +kernel
theorem dX3_fact_131 : decode cX3_fact 131 = .ok (.iload 4, 2) := by decide +kernel
theorem dX3_fact_133 : decode cX3_fact 133 = .ok (.invokevirtual 128, 3) := by decide +kernel
theorem dX3_fact_136 : decode cX3_fact 136 = .ok (.ireturn, 1) := by decide +kernel
theorem dX3_fact_137 : decode cX3_fact 137 = .ok (.aload_n 0, 1) := by decide +kernel
theorem dX3_fact_138 : decode cX3_fact 138 = .ok (.getfield 44, 3) := by decide +kernel
theorem dX3_fact_141 : decode cX3_fact 141 = .ok (.iload_n 2, 1) := by decide +kernel
theorem dX3_fact_142 : decode cX3_fact 142 = .ok (.invokevirtual 132, 3) := by decide +kernel
theorem dX3_fact_145 : decode cX3_fact 145 = .ok (.ireturn, 1) := by decide +kernel
theorem dX3_fact_146 : decode cX3_fact 146 = .ok (.iconst (-1), 1) := by decide +kernel
theorem dX3_fact_147 : decode cX3_fact 147 = .ok (.ireturn, 1) := by decide +kernel
theorem dX3_parameterType_0 : decode cX3_parameterType 0 = .ok (.iload_n 2, 1) := by decide +kernel
theorem dX3_parameterType_1 : decode cX3_parameterType 1 = .ok (.ifCond .lt 33, 3) := by decide +kernel
theorem dX3_parameterType_4 : decode cX3_parameterType 4 = .ok (.iload_n 2, 1) := by decide +kernel
theorem dX3_parameterType_5 : decode cX3_parameterType 5 = .ok (.aload_n 0, 1) := by decide +kernel
theorem dX3_parameterType_6 : decode cX3_parameterType 6 = .ok (.getfield 19, 3) := by decide +kernel
theorem dX3_parameterType_9 : decode cX3_parameterType 9 = .ok (.iload_n 1, 1) := by decide +kernel
theorem dX3_parameterType_10 : decode cX3_parameterType 10 = .ok (.iaload, 1) := by decide +kernel
theorem dX3_parameterType_11 : decode cX3_parameterType 11 = .ok (.if_icmp .ge 23, 3) := by decide +kernel
theorem dX3_parameterType_14 : decode cX3_parameterType 14 = .ok (.iload_n 2, 1) := by decide +kernel
theorem dX3_parameterType_15 : decode cX3_parameterType 15 = .ok (.bipush 8, 2) := by decide +kernel
theorem dX3_parameterType_17 : decode cX3_parameterType 17 = .ok (.if_icmp .ge 17, 3) := by decide +kernel
theorem dX3_parameterType_20 : decode cX3_parameterType 20 = .ok (.aload_n 0, 1) := by decide +kernel
theorem dX3_parameterType_21 : decode cX3_parameterType 21 = .ok (.getfield 22, 3) := by decide +kernel
theorem dX3_parameterType_24 : decode cX3_parameterType 24 = .ok (.iload_n 1, 1) := by decide +kernel
theorem dX3_parameterType_25 : decode cX3_parameterType 25 = .ok (.bipush 8, 2) := by decide +kernel
theorem dX3_parameterType_27 : decode cX3_parameterType 27 = .ok (.imul, 1) := by decide +kernel
theorem dX3_parameterType_28 : decode cX3_parameterType 28 = .ok (.iload_n 2, 1) := by decide +kernel
theorem dX3_parameterType_29 : decode cX3_parameterType 29 = .ok (.iadd, 1) := by decide +kernel
theorem dX3_parameterType_30 : decode cX3_parameterType 30 = .ok (.iaload, 1) := by decide +kernel
theorem dX3_parameterType_31 : decode cX3_parameterType 31 = .ok (.goto 4, 3) := by decide +kernel
theorem dX3_parameterType_34 : decode cX3_parameterType 34 = .ok (.iconst (-1), 1) := by decide +kernel
theorem dX3_parameterType_35 : decode cX3_parameterType 35 = .ok (.ireturn, 1) := by decide +kernel
set_option maxRecDepth 20000 in
theorem ggX3_handlerFact_X3_has : GoodIn wsX3_handlerFact wsX3_has := goodIn_r _ [6, 7, 31, 32, 33, 34, 35, 36, 37, 38, 39, 40] (by decide +kernel) (by decide +kernel)
set_option maxRecDepth 20000 in
theorem gX3_handlerFact_X3_has : GoodIn wsX3_handlerFact (wsV RX3 109 RX3 yX3_has wsX3_has) := goodIn_app (goodIn_of _ (by decide +kernel)) ggX3_handlerFact_X3_has
set_option maxRecDepth 20000 in
theorem ggX3_handlerFact_X2_fact : GoodIn wsX3_handlerFact wsX2_fact := goodIn_r _ [12, 13, 14, 15, 16, 11, 17, 18, 19, 20, 21, 22, 23, 24, 25, 26, 27, 28, 29, 30, 41, 42, 43, 44, 45, 46] (by decide +kernel) (by decide +kernel)
set_option maxRecDepth 20000 in
theorem gX3_handlerFact_X2_fact : GoodIn wsX3_handlerFact (wsV RX3 133 RX2 yX2_fact wsX2_fact) := goodIn_app (goodIn_of _ (by decide +kernel)) ggX3_handlerFact_X2_fact
theorem dX3_handlerFact_0 : decode cX3_handlerFact 0 = .ok (.aload_n 0, 1) := by decide +kernel
theorem dX3_handlerFact_1 : decode cX3_handlerFact 1 = .ok (.iload_n 2, 1) := by decide +kernel
theorem dX3_handlerFact_2 : decode cX3_handlerFact 2 = .ok (.invokevirtual 109, 3) := by decide +kernel
theorem dX3_handlerFact_5 : decode cX3_handlerFact 5 = .ok (.ifCond .eq 18, 3) := by decide +kernel
theorem dX3_handlerFact_8 : decode cX3_handlerFact 8 = .ok (.aload_n 0, 1) := by decide +kernel
theorem dX3_handlerFact_9 : decode cX3_handlerFact 9 = .ok (.getfield 44, 3) := by decide +kernel
theorem dX3_handlerFact_12 : decode cX3_handlerFact 12 = .ok (.aload_n 1, 1) := by decide +kernel
theorem dX3_handlerFact_13 : decode cX3_handlerFact 13 = .ok (.iload_n 2, 1) := by decide +kernel
theorem dX3_handlerFact_14 : decode cX3_handlerFact 14 = .ok (.iload_n 3, 1) := by decide +kernel
theorem dX3_handlerFact_15 : decode cX3_handlerFact 15 = .ok (.iload 4, 2) := by decide +kernel
theorem dX3_handlerFact_17 : decode cX3_handlerFact 17 = .ok (.invokevirtual 133, 3) := by decide +kernel
theorem dX3_handlerFact_20 : decode cX3_handlerFact 20 = .ok (.goto 4, 3) := by decide +kernel
theorem dX3_handlerFact_23 : decode cX3_handlerFact 23 = .ok (.iconst (-1), 1) := by decide +kernel
theorem dX3_handlerFact_24 : decode cX3_handlerFact 24 = .ok (.ireturn, 1) := by decide +kernel
set_option maxRecDepth 20000 in
theorem ggX3_instructionFact_X3_has : GoodIn wsX3_instructionFact wsX3_has := goodIn_r _ [6, 7, 55, 56, 57, 58, 59, 60, 61, 62, 63, 64] (by decide +kernel) (by decide +kernel)
set_option maxRecDepth 20000 in
theorem gX3_instructionFact_X3_has : GoodIn wsX3_instructionFact (wsV RX3 109 RX3 yX3_has wsX3_has) := goodIn_app (goodIn_of _ (by decide +kernel)) ggX3_instructionFact_X3_has
set_option maxRecDepth 20000 in
theorem ggX3_instructionFact_X1_fact : GoodIn wsX3_instructionFact wsX1_fact := goodIn_r _ [12, 13, 14, 15, 16, 11, 17, 18, 19, 20, 21, 22, 23, 24, 25, 26, 27, 28, 29, 30, 31, 32, 33, 34, 35, 36, 37, 38, 39, 40, 41, 42, 43, 44, 45, 46, 47, 48, 49, 50, 51, 52, 53, 54, 65, 66, 67, 68, 69, 70, 71, 72, 73] (by decide +kernel) (by decide +kernel)
set_option maxRecDepth 20000 in
theorem gX3_instructionFact_X1_fact : GoodIn wsX3_instructionFact (wsV RX3 137 RX1 yX1_fact wsX1_fact) := goodIn_app (goodIn_of _ (by decide +kernel)) ggX3_instructionFact_X1_fact
theorem dX3_instructionFact_0 : decode cX3_instructionFact 0 = .ok (.aload_n 0, 1) := by decide +kernel
theorem dX3_instructionFact_1 : decode cX3_instructionFact 1 = .ok (.iload_n 2, 1) := by decide +kernel
theorem dX3_instructionFact_2 : decode cX3_instructionFact 2 = .ok (.invokevirtual 109, 3) := by decide +kernel
theorem dX3_instructionFact_5 : decode cX3_instructionFact 5 = .ok (.ifCond .eq 18, 3) := by decide +kernel
theorem dX3_instructionFact_8 : decode cX3_instructionFact 8 = .ok (.aload_n 0, 1) := by decide +kernel
theorem dX3_instructionFact_9 : decode cX3_instructionFact 9 = .ok (.getfield 37, 3) := by decide +kernel
theorem dX3_instructionFact_12 : decode cX3_instructionFact 12 = .ok (.aload_n 1, 1) := by decide +kernel
theorem dX3_instructionFact_13 : decode cX3_instructionFact 13 = .ok (.iload_n 2, 1) := by decide +kernel
theorem dX3_instructionFact_14 : decode cX3_instructionFact 14 = .ok (.iload_n 3, 1) := by decide +kernel
theorem dX3_instructionFact_15 : decode cX3_instructionFact 15 = .ok (.iload 4, 2) := by decide +kernel
theorem dX3_instructionFact_17 : decode cX3_instructionFact 17 = .ok (.invokevirtual 137, 3) := by decide +kernel
theorem dX3_instructionFact_20 : decode cX3_instructionFact 20 = .ok (.goto 4, 3) := by decide +kernel
theorem dX3_instructionFact_23 : decode cX3_instructionFact 23 = .ok (.iconst (-1), 1) := by decide +kernel
theorem dX3_instructionFact_24 : decode cX3_instructionFact 24 = .ok (.ireturn, 1) := by decide +kernel
set_option maxRecDepth 20000 in
theorem ggX3_misfit_X0_size : GoodIn wsX3_misfit wsX0_size := goodIn_r _ [8, 9, 130, 131, 132, 133, 134, 135, 136] (by decide +kernel) (by decide +kernel)
set_option maxRecDepth 20000 in
theorem gX3_misfit_X0_size : GoodIn wsX3_misfit (wsV RX3 74 RX0 yX0_size wsX0_size) := goodIn_app (goodIn_of _ (by decide +kernel)) ggX3_misfit_X0_size
set_option maxRecDepth 20000 in
theorem ggX3_misfit_X3_misfitSlot : GoodIn wsX3_misfit wsX3_misfitSlot := goodIn_r _ [14, 15, 16, 17, 7, 18, 19, 20, 21, 22, 23, 9, 24, 25, 26, 13, 27, 28, 29, 30, 31, 32, 33, 34, 35, 36, 37, 38, 39, 40, 41, 42, 1, 43, 44, 45, 46, 47, 48, 49, 50, 51, 52, 53, 130, 131, 132, 133, 134, 135, 136, 120, 121, 122, 123, 124, 125, 126, 127, 128, 129] (by decide +kernel) (by decide +kernel)
set_option maxRecDepth 20000 in
theorem gX3_misfit_X3_misfitSlot : GoodIn wsX3_misfit (wsV RX3 138 RX3 yX3_misfitSlot wsX3_misfitSlot) := goodIn_app (goodIn_of _ (by decide +kernel)) ggX3_misfit_X3_misfitSlot
set_option maxRecDepth 20000 in
theorem ggX3_misfit_X1_misfit : GoodIn wsX3_misfit wsX1_misfit := goodIn_r _ [58, 59, 60, 61, 62, 57, 63, 64, 65, 66, 67, 68, 69, 70, 71, 72, 73, 74, 75, 76, 77, 78, 79, 80, 81, 82, 83, 84, 85, 86, 87, 88, 89, 90, 91, 92, 93, 94, 95, 96, 97, 98, 99, 100, 101, 102, 103, 104, 105, 137, 138, 139, 140, 141, 142, 143, 144, 145] (by decide +kernel) (by decide +kernel)
set_option maxRecDepth 20000 in
theorem gX3_misfit_X1_misfit : GoodIn wsX3_misfit (wsV RX3 142 RX1 yX1_misfit wsX1_misfit) := goodIn_app (goodIn_of _ (by decide +kernel)) ggX3_misfit_X1_misfit
set_option maxRecDepth 20000 in
theorem ggX3_misfit_X2_misfit : GoodIn wsX3_misfit wsX2_misfit := goodIn_r _ [110, 111, 112, 113, 114, 109, 115, 116, 117, 82, 83, 68, 84, 85, 66, 67, 69, 70, 71, 118, 87, 88, 57, 89, 59, 90, 91, 92, 93, 94, 95, 119, 146, 147, 142, 143, 144, 145, 137, 138, 139, 140, 141] (by decide +kernel) (by decide +kernel)
set_option maxRecDepth 20000 in
theorem gX3_misfit_X2_misfit : GoodIn wsX3_misfit (wsV RX3 145 RX2 yX2_misfit wsX2_misfit) := goodIn_app (goodIn_of _ (by decide +kernel)) ggX3_misfit_X2_misfit
theorem dX3_misfit_0 : decode cX3_misfit 0 = .ok (.iconst 0, 1) := by decide +kernel
theorem dX3_misfit_1 : decode cX3_misfit 1 = .ok (.istore_n 3, 1) := by decide +kernel
theorem dX3_misfit_2 : decode cX3_misfit 2 = .ok (.iload_n 3, 1) := by decide +kernel
theorem dX3_misfit_3 : decode cX3_misfit 3 = .ok (.aload_n 2, 1) := by decide +kernel
theorem dX3_misfit_4 : decode cX3_misfit 4 = .ok (.invokevirtual 74, 3) := by decide +kernel
theorem dX3_misfit_7 : decode cX3_misfit 7 = .ok (.if_icmp .ge 26, 3) := by decide +kernel
theorem dX3_misfit_10 : decode cX3_misfit 10 = .ok (.aload_n 0, 1) := by decide +kernel
theorem dX3_misfit_11 : decode cX3_misfit 11 = .ok (.aload_n 2, 1) := by decide +kernel
theorem dX3_misfit_12 : decode cX3_misfit 12 = .ok (.iload_n 3, 1) := by decide +kernel
theorem dX3_misfit_13 : decode cX3_misfit 13 = .ok (.invokevirtual 138, 3) := by decide +kernel
theorem dX3_misfit_16 : decode cX3_misfit 16 = .ok (.istore 4, 2) := by decide +kernel
theorem dX3_misfit_18 : decode cX3_misfit 18 = .ok (.iload 4, 2) := by decide +kernel
theorem dX3_misfit_20 : decode cX3_misfit 20 = .ok (.iconst (-1), 1) := by decide +kernel
theorem dX3_misfit_21 : decode cX3_misfit 21 = .ok (.if_icmp .eq 6, 3) := by decide +kernel
theorem dX3_misfit_24 : decode cX3_misfit 24 = .ok (.iload 4, 2) := by decide +kernel
theorem dX3_misfit_26 : decode cX3_misfit 26 = .ok (.ireturn, 1) := by decide +kernel
theorem dX3_misfit_27 : decode cX3_misfit 27 = .ok (.iinc 3 1, 3) := by decide +kernel
theorem dX3_misfit_30 : decode cX3_misfit 30 = .ok (.goto (-28), 3) := by decide +kernel
theorem dX3_misfit_33 : decode cX3_misfit 33 = .ok (.iconst 0, 1) := by decide +kernel
theorem dX3_misfit_34 : decode cX3_misfit 34 = .ok (.istore_n 3, 1) := by decide +kernel
theorem dX3_misfit_35 : decode cX3_misfit 35 = .ok (.iload_n 3, 1) := by decide +kernel
theorem dX3_misfit_36 : decode cX3_misfit 36 = .ok (.aload_n 0, 1) := by decide +kernel
theorem dX3_misfit_37 : decode cX3_misfit 37 = .ok (.getfield 48, 3) := by decide +kernel
theorem dX3_misfit_40 : decode cX3_misfit 40 = .ok (.if_icmp .ge 59, 3) := by decide +kernel
theorem dX3_misfit_43 : decode cX3_misfit 43 = .ok (.aload_n 0, 1) := by decide +kernel
theorem dX3_misfit_44 : decode cX3_misfit 44 = .ok (.getfield 37, 3) := by decide +kernel
theorem dX3_misfit_47 : decode cX3_misfit 47 = .ok (.aload_n 1, 1) := by decide +kernel
theorem dX3_misfit_48 : decode cX3_misfit 48 = .ok (.iload_n 3, 1) := by decide +kernel
theorem dX3_misfit_49 : decode cX3_misfit 49 = .ok (.aload_n 0, 1) := by decide +kernel
theorem dX3_misfit_50 : decode cX3_misfit 50 = .ok (.getfield 48, 3) := by decide +kernel
theorem dX3_misfit_53 : decode cX3_misfit 53 = .ok (.invokevirtual 142, 3) := by decide +kernel
theorem dX3_misfit_56 : decode cX3_misfit 56 = .ok (.istore 4, 2) := by decide +kernel
theorem dX3_misfit_58 : decode cX3_misfit 58 = .ok (.iload 4, 2) := by decide +kernel
theorem dX3_misfit_60 : decode cX3_misfit 60 = .ok (.iconst (-1), 1) := by decide +kernel
theorem dX3_misfit_61 : decode cX3_misfit 61 = .ok (.if_icmp .eq 8, 3) := by decide +kernel
theorem dX3_misfit_64 : decode cX3_misfit 64 = .ok (.iload 4, 2) := by decide +kernel
theorem dX3_misfit_66 : decode cX3_misfit 66 = .ok (.goto 16, 3) := by decide +kernel
theorem dX3_misfit_69 : decode cX3_misfit 69 = .ok (.aload_n 0, 1) := by decide +kernel
theorem dX3_misfit_70 : decode cX3_misfit 70 = .ok (.getfield 44, 3) := by decide +kernel
theorem dX3_misfit_73 : decode cX3_misfit 73 = .ok (.aload_n 1, 1) := by decide +kernel
theorem dX3_misfit_74 : decode cX3_misfit 74 = .ok (.aload_n 0, 1) := by decide +kernel
theorem dX3_misfit_75 : decode cX3_misfit 75 = .ok (.getfield 37, 3) := by decide +kernel
theorem dX3_misfit_78 : decode cX3_misfit 78 = .ok (.iload_n 3, 1) := by decide +kernel
theorem dX3_misfit_79 : decode cX3_misfit 79 = .ok (.invokevirtual 145, 3) := by decide +kernel
theorem dX3_misfit_82 : decode cX3_misfit 82 = .ok (.istore 5, 2) := by decide +kernel
theorem dX3_misfit_84 : decode cX3_misfit 84 = .ok (.iload 5, 2) := by decide +kernel
theorem dX3_misfit_86 : decode cX3_misfit 86 = .ok (.iconst (-1), 1) := by decide +kernel
theorem dX3_misfit_87 : decode cX3_misfit 87 = .ok (.if_icmp .eq 6, 3) := by decide +kernel
theorem dX3_misfit_90 : decode cX3_misfit 90 = .ok (.iload 5, 2) := by decide +kernel
theorem dX3_misfit_92 : decode cX3_misfit 92 = .ok (.ireturn, 1) := by decide +kernel
theorem dX3_misfit_93 : decode cX3_misfit 93 = .ok (.iinc 3 1, 3) := by decide +kernel
theorem dX3_misfit_96 : decode cX3_misfit 96 = .ok (.goto (-61), 3) := by decide +kernel
theorem dX3_misfit_99 : decode cX3_misfit 99 = .ok (.iconst (-1), 1) := by decide +kernel
theorem dX3_misfit_100 : decode cX3_misfit 100 = .ok (.ireturn, 1) := by decide +kernel
set_option maxRecDepth 20000 in
theorem ggX3_misfitSlot_X0_slotPlace : GoodIn wsX3_misfitSlot wsX0_slotPlace := goodIn_r _ [5, 6, 7, 8, 9, 4, 10, 11, 44, 45, 46, 47, 48, 49, 50] (by decide +kernel) (by decide +kernel)
set_option maxRecDepth 20000 in
theorem gX3_misfitSlot_X0_slotPlace : GoodIn wsX3_misfitSlot (wsV RX3 148 RX0 yX0_slotPlace wsX0_slotPlace) := goodIn_app (goodIn_of _ (by decide +kernel)) ggX3_misfitSlot_X0_slotPlace
set_option maxRecDepth 20000 in
theorem ggX3_misfitSlot_X3_fitsSlot : GoodIn wsX3_misfitSlot wsX3_fitsSlot := goodIn_r _ [16, 17, 18, 19, 20, 4, 21, 22, 7, 8, 9, 10, 11, 23, 24, 25, 26, 27, 28, 29, 30, 15, 31, 32, 33, 34, 35, 36, 37, 38, 39, 40, 41, 42, 43, 51, 52, 53, 54, 55, 56, 57, 58, 59, 60, 44, 45, 46, 47, 48, 49, 50] (by decide +kernel) (by decide +kernel)
set_option maxRecDepth 20000 in
theorem gX3_misfitSlot_X3_fitsSlot : GoodIn wsX3_misfitSlot (wsV RX3 151 RX3 yX3_fitsSlot wsX3_fitsSlot) := goodIn_app (goodIn_of _ (by decide +kernel)) ggX3_misfitSlot_X3_fitsSlot
theorem dX3_misfitSlot_0 : decode cX3_misfitSlot 0 = .ok (.iconst 0, 1) := by decide +kernel
theorem dX3_misfitSlot_1 : decode cX3_misfitSlot 1 = .ok (.istore_n 3, 1) := by decide +kernel
theorem dX3_misfitSlot_2 : decode cX3_misfitSlot 2 = .ok (.iload_n 3, 1) := by decide +kernel
theorem dX3_misfitSlot_3 : decode cX3_misfitSlot 3 = .ok (.bipush 16, 2) := by decide +kernel
theorem dX3_misfitSlot_5 : decode cX3_misfitSlot 5 = .ok (.if_icmp .ge 36, 3) := by decide +kernel
theorem dX3_misfitSlot_8 : decode cX3_misfitSlot 8 = .ok (.aload_n 1, 1) := by decide +kernel
theorem dX3_misfitSlot_9 : decode cX3_misfitSlot 9 = .ok (.iload_n 2, 1) := by decide +kernel
theorem dX3_misfitSlot_10 : decode cX3_misfitSlot 10 = .ok (.iload_n 3, 1) := by decide +kernel
theorem dX3_misfitSlot_11 : decode cX3_misfitSlot 11 = .ok (.invokevirtual 148, 3) := by decide +kernel
theorem dX3_misfitSlot_14 : decode cX3_misfitSlot 14 = .ok (.istore 4, 2) := by decide +kernel
theorem dX3_misfitSlot_16 : decode cX3_misfitSlot 16 = .ok (.iload 4, 2) := by decide +kernel
theorem dX3_misfitSlot_18 : decode cX3_misfitSlot 18 = .ok (.iconst (-1), 1) := by decide +kernel
theorem dX3_misfitSlot_19 : decode cX3_misfitSlot 19 = .ok (.if_icmp .eq 16, 3) := by decide +kernel
theorem dX3_misfitSlot_22 : decode cX3_misfitSlot 22 = .ok (.aload_n 0, 1) := by decide +kernel
theorem dX3_misfitSlot_23 : decode cX3_misfitSlot 23 = .ok (.aload_n 1, 1) := by decide +kernel
theorem dX3_misfitSlot_24 : decode cX3_misfitSlot 24 = .ok (.iload_n 2, 1) := by decide +kernel
theorem dX3_misfitSlot_25 : decode cX3_misfitSlot 25 = .ok (.iload_n 3, 1) := by decide +kernel
theorem dX3_misfitSlot_26 : decode cX3_misfitSlot 26 = .ok (.invokevirtual 151, 3) := by decide +kernel
theorem dX3_misfitSlot_29 : decode cX3_misfitSlot 29 = .ok (.ifCond .ne 6, 3) := by decide +kernel
theorem dX3_misfitSlot_32 : decode cX3_misfitSlot 32 = .ok (.iload 4, 2) := by decide +kernel
theorem dX3_misfitSlot_34 : decode cX3_misfitSlot 34 = .ok (.ireturn, 1) := by decide +kernel
theorem dX3_misfitSlot_35 : decode cX3_misfitSlot 35 = .ok (.iinc 3 1, 3) := by decide +kernel
theorem dX3_misfitSlot_38 : decode cX3_misfitSlot 38 = .ok (.goto (-36), 3) := by decide +kernel
theorem dX3_misfitSlot_41 : decode cX3_misfitSlot 41 = .ok (.iconst (-1), 1) := by decide +kernel
theorem dX3_misfitSlot_42 : decode cX3_misfitSlot 42 = .ok (.ireturn, 1) := by decide +kernel
set_option maxRecDepth 20000 in
theorem ggX3_fitsSlot_X0_slotMethod : GoodIn wsX3_fitsSlot wsX0_slotMethod := goodIn_r _ [6, 7, 8, 9, 10, 5, 11, 12, 45, 46, 47, 48, 49, 50, 51] (by decide +kernel) (by decide +kernel)
set_option maxRecDepth 20000 in
theorem gX3_fitsSlot_X0_slotMethod : GoodIn wsX3_fitsSlot (wsV RX3 155 RX0 yX0_slotMethod wsX0_slotMethod) := goodIn_app (goodIn_of _ (by decide +kernel)) ggX3_fitsSlot_X0_slotMethod
set_option maxRecDepth 20000 in
theorem ggX3_fitsSlot_X0_upper : GoodIn wsX3_fitsSlot wsX0_upper := goodIn_r _ [16, 17, 8, 9, 10, 5, 11, 12, 45, 46, 47, 48, 49, 50, 51] (by decide +kernel) (by decide +kernel)
set_option maxRecDepth 20000 in
theorem gX3_fitsSlot_X0_upper : GoodIn wsX3_fitsSlot (wsV RX3 158 RX0 yX0_upper wsX0_upper) := goodIn_app (goodIn_of _ (by decide +kernel)) ggX3_fitsSlot_X0_upper
set_option maxRecDepth 20000 in
theorem ggX3_fitsSlot_X3_has : GoodIn wsX3_fitsSlot wsX3_has := goodIn_r _ [22, 23, 35, 36, 37, 38, 39, 40, 41, 42, 43, 44] (by decide +kernel) (by decide +kernel)
set_option maxRecDepth 20000 in
theorem gX3_fitsSlot_X3_has : GoodIn wsX3_fitsSlot (wsV RX3 109 RX3 yX3_has wsX3_has) := goodIn_app (goodIn_of _ (by decide +kernel)) ggX3_fitsSlot_X3_has
set_option maxRecDepth 20000 in
theorem ggX3_fitsSlot_X3_standsFor : GoodIn wsX3_fitsSlot wsX3_standsFor := goodIn_r _ [27, 28, 29, 18, 19, 20, 21, 22, 23, 30, 31, 32, 33, 34, 35, 36, 37, 38, 39, 40, 41, 42, 43, 44] (by decide +kernel) (by decide +kernel)
set_option maxRecDepth 20000 in
theorem gX3_fitsSlot_X3_standsFor : GoodIn wsX3_fitsSlot (wsV RX3 161 RX3 yX3_standsFor wsX3_standsFor) := goodIn_app (goodIn_of _ (by decide +kernel)) ggX3_fitsSlot_X3_standsFor
theorem dX3_fitsSlot_0 : decode cX3_fitsSlot 0 = .ok (.aload_n 1, 1) := by decide +kernel
theorem dX3_fitsSlot_1 : decode cX3_fitsSlot 1 = .ok (.iload_n 2, 1) := by decide +kernel
theorem dX3_fitsSlot_2 : decode cX3_fitsSlot 2 = .ok (.iload_n 3, 1) := by decide +kernel
theorem dX3_fitsSlot_3 : decode cX3_fitsSlot 3 = .ok (.invokevirtual 155, 3) := by decide +kernel
theorem dX3_fitsSlot_6 : decode cX3_fitsSlot 6 = .ok (.istore 4, 2) := by decide +kernel
theorem dX3_fitsSlot_8 : decode cX3_fitsSlot 8 = .ok (.aload_n 1, 1) := by decide +kernel
theorem dX3_fitsSlot_9 : decode cX3_fitsSlot 9 = .ok (.aload_n 1, 1) := by decide +kernel
theorem dX3_fitsSlot_10 : decode cX3_fitsSlot 10 = .ok (.iload_n 2, 1) := by decide +kernel
theorem dX3_fitsSlot_11 : decode cX3_fitsSlot 11 = .ok (.invokevirtual 158, 3) := by decide +kernel
theorem dX3_fitsSlot_14 : decode cX3_fitsSlot 14 = .ok (.iload_n 3, 1) := by decide +kernel
theorem dX3_fitsSlot_15 : decode cX3_fitsSlot 15 = .ok (.invokevirtual 155, 3) := by decide +kernel
theorem dX3_fitsSlot_18 : decode cX3_fitsSlot 18 = .ok (.istore 5, 2) := by decide +kernel
theorem dX3_fitsSlot_20 : decode cX3_fitsSlot 20 = .ok (.aload_n 0, 1) := by decide +kernel
theorem dX3_fitsSlot_21 : decode cX3_fitsSlot 21 = .ok (.iload 4, 2) := by decide +kernel
theorem dX3_fitsSlot_23 : decode cX3_fitsSlot 23 = .ok (.invokevirtual 109, 3) := by decide +kernel
theorem dX3_fitsSlot_26 : decode cX3_fitsSlot 26 = .ok (.ifCond .eq 35, 3) := by decide +kernel
theorem dX3_fitsSlot_29 : decode cX3_fitsSlot 29 = .ok (.aload_n 0, 1) := by decide +kernel
theorem dX3_fitsSlot_30 : decode cX3_fitsSlot 30 = .ok (.getfield 15, 3) := by decide +kernel
theorem dX3_fitsSlot_33 : decode cX3_fitsSlot 33 = .ok (.iload 4, 2) := by decide +kernel
theorem dX3_fitsSlot_35 : decode cX3_fitsSlot 35 = .ok (.iaload, 1) := by decide +kernel
theorem dX3_fitsSlot_36 : decode cX3_fitsSlot 36 = .ok (.iload_n 2, 1) := by decide +kernel
theorem dX3_fitsSlot_37 : decode cX3_fitsSlot 37 = .ok (.if_icmp .ne 24, 3) := by decide +kernel
theorem dX3_fitsSlot_40 : decode cX3_fitsSlot 40 = .ok (.iload 5, 2) := by decide +kernel
theorem dX3_fitsSlot_42 : decode cX3_fitsSlot 42 = .ok (.iconst (-1), 1) := by decide +kernel
theorem dX3_fitsSlot_43 : decode cX3_fitsSlot 43 = .ok (.if_icmp .eq 14, 3) := by decide +kernel
theorem dX3_fitsSlot_46 : decode cX3_fitsSlot 46 = .ok (.aload_n 0, 1) := by decide +kernel
theorem dX3_fitsSlot_47 : decode cX3_fitsSlot 47 = .ok (.iload 4, 2) := by decide +kernel
theorem dX3_fitsSlot_49 : decode cX3_fitsSlot 49 = .ok (.iload 5, 2) := by decide +kernel
theorem dX3_fitsSlot_51 : decode cX3_fitsSlot 51 = .ok (.invokevirtual 161, 3) := by decide +kernel
theorem dX3_fitsSlot_54 : decode cX3_fitsSlot 54 = .ok (.ifCond .eq 7, 3) := by decide +kernel
theorem dX3_fitsSlot_57 : decode cX3_fitsSlot 57 = .ok (.iconst 1, 1) := by decide +kernel
theorem dX3_fitsSlot_58 : decode cX3_fitsSlot 58 = .ok (.goto 4, 3) := by decide +kernel
theorem dX3_fitsSlot_61 : decode cX3_fitsSlot 61 = .ok (.iconst 0, 1) := by decide +kernel
theorem dX3_fitsSlot_62 : decode cX3_fitsSlot 62 = .ok (.ireturn, 1) := by decide +kernel
set_option maxRecDepth 20000 in
theorem ggX3_standsFor_X3_has : GoodIn wsX3_standsFor wsX3_has := goodIn_r _ [7, 8, 14, 15, 16, 17, 18, 19, 20, 21, 22, 23] (by decide +kernel) (by decide +kernel)
set_option maxRecDepth 20000 in
theorem gX3_standsFor_X3_has : GoodIn wsX3_standsFor (wsV RX3 109 RX3 yX3_has wsX3_has) := goodIn_app (goodIn_of _ (by decide +kernel)) ggX3_standsFor_X3_has
set_option maxRecDepth 20000 in
theorem ggX3_standsFor_X3_parameterType : GoodIn wsX3_standsFor wsX3_parameterType := goodIn_r _ [12, 2, 13, 14, 15, 16, 17, 18, 19, 20, 21, 22, 23] (by decide +kernel) (by decide +kernel)
set_option maxRecDepth 20000 in
theorem gX3_standsFor_X3_parameterType : GoodIn wsX3_standsFor (wsV RX3 120 RX3 yX3_parameterType wsX3_parameterType) := goodIn_app (goodIn_of _ (by decide +kernel)) ggX3_standsFor_X3_parameterType
theorem dX3_standsFor_0 : decode cX3_standsFor 0 = .ok (.aload_n 0, 1) := by decide +kernel
theorem dX3_standsFor_1 : decode cX3_standsFor 1 = .ok (.iload_n 1, 1) := by decide +kernel
theorem dX3_standsFor_2 : decode cX3_standsFor 2 = .ok (.invokevirtual 109, 3) := by decide +kernel
theorem dX3_standsFor_5 : decode cX3_standsFor 5 = .ok (.ifCond .eq 41, 3) := by decide +kernel
theorem dX3_standsFor_8 : decode cX3_standsFor 8 = .ok (.aload_n 0, 1) := by decide +kernel
theorem dX3_standsFor_9 : decode cX3_standsFor 9 = .ok (.iload_n 2, 1) := by decide +kernel
theorem dX3_standsFor_10 : decode cX3_standsFor 10 = .ok (.invokevirtual 109, 3) := by decide +kernel
theorem dX3_standsFor_13 : decode cX3_standsFor 13 = .ok (.ifCond .eq 33, 3) := by decide +kernel
theorem dX3_standsFor_16 : decode cX3_standsFor 16 = .ok (.aload_n 0, 1) := by decide +kernel
theorem dX3_standsFor_17 : decode cX3_standsFor 17 = .ok (.getfield 25, 3) := by decide +kernel
theorem dX3_standsFor_20 : decode cX3_standsFor 20 = .ok (.iload_n 1, 1) := by decide +kernel
theorem dX3_standsFor_21 : decode cX3_standsFor 21 = .ok (.iaload, 1) := by decide +kernel
theorem dX3_standsFor_22 : decode cX3_standsFor 22 = .ok (.aload_n 0, 1) := by decide +kernel
theorem dX3_standsFor_23 : decode cX3_standsFor 23 = .ok (.getfield 25, 3) := by decide +kernel
theorem dX3_standsFor_26 : decode cX3_standsFor 26 = .ok (.iload_n 2, 1) := by decide +kernel
theorem dX3_standsFor_27 : decode cX3_standsFor 27 = .ok (.iaload, 1) := by decide +kernel
theorem dX3_standsFor_28 : decode cX3_standsFor 28 = .ok (.if_icmp .ne 18, 3) := by decide +kernel
theorem dX3_standsFor_31 : decode cX3_standsFor 31 = .ok (.aload_n 0, 1) := by decide +kernel
theorem dX3_standsFor_32 : decode cX3_standsFor 32 = .ok (.getfield 19, 3) := by decide +kernel
theorem dX3_standsFor_35 : decode cX3_standsFor 35 = .ok (.iload_n 1, 1) := by decide +kernel
theorem dX3_standsFor_36 : decode cX3_standsFor 36 = .ok (.iaload, 1) := by decide +kernel
theorem dX3_standsFor_37 : decode cX3_standsFor 37 = .ok (.aload_n 0, 1) := by decide +kernel
theorem dX3_standsFor_38 : decode cX3_standsFor 38 = .ok (.getfield 19, 3) := by decide +kernel
theorem dX3_standsFor_41 : decode cX3_standsFor 41 = .ok (.iload_n 2, 1) := by decide +kernel
theorem dX3_standsFor_42 : decode cX3_standsFor 42 = .ok (.iaload, 1) := by decide +kernel
theorem dX3_standsFor_43 : decode cX3_standsFor 43 = .ok (.if_icmp .eq 5, 3) := by decide +kernel
theorem dX3_standsFor_46 : decode cX3_standsFor 46 = .ok (.iconst 0, 1) := by decide +kernel
theorem dX3_standsFor_47 : decode cX3_standsFor 47 = .ok (.ireturn, 1) := by decide +kernel
theorem dX3_standsFor_48 : decode cX3_standsFor 48 = .ok (.iconst 1, 1) := by decide +kernel
theorem dX3_standsFor_49 : decode cX3_standsFor 49 = .ok (.istore_n 3, 1) := by decide +kernel
theorem dX3_standsFor_50 : decode cX3_standsFor 50 = .ok (.iload_n 3, 1) := by decide +kernel
theorem dX3_standsFor_51 : decode cX3_standsFor 51 = .ok (.aload_n 0, 1) := by decide +kernel
theorem dX3_standsFor_52 : decode cX3_standsFor 52 = .ok (.getfield 19, 3) := by decide +kernel
theorem dX3_standsFor_55 : decode cX3_standsFor 55 = .ok (.iload_n 1, 1) := by decide +kernel
theorem dX3_standsFor_56 : decode cX3_standsFor 56 = .ok (.iaload, 1) := by decide +kernel
theorem dX3_standsFor_57 : decode cX3_standsFor 57 = .ok (.if_icmp .ge 26, 3) := by decide +kernel
theorem dX3_standsFor_60 : decode cX3_standsFor 60 = .ok (.aload_n 0, 1) := by decide +kernel
theorem dX3_standsFor_61 : decode cX3_standsFor 61 = .ok (.iload_n 1, 1) := by decide +kernel
theorem dX3_standsFor_62 : decode cX3_standsFor 62 = .ok (.iload_n 3, 1) := by decide +kernel
theorem dX3_standsFor_63 : decode cX3_standsFor 63 = .ok (.invokevirtual 120, 3) := by decide +kernel
theorem dX3_standsFor_66 : decode cX3_standsFor 66 = .ok (.aload_n 0, 1) := by decide +kernel
theorem dX3_standsFor_67 : decode cX3_standsFor 67 = .ok (.iload_n 2, 1) := by decide +kernel
theorem dX3_standsFor_68 : decode cX3_standsFor 68 = .ok (.iload_n 3, 1) := by decide +kernel
theorem dX3_standsFor_69 : decode cX3_standsFor 69 = .ok (.invokevirtual 120, 3) := by decide +kernel
theorem dX3_standsFor_72 : decode cX3_standsFor 72 = .ok (.if_icmp .eq 5, 3) := by decide +kernel
theorem dX3_standsFor_75 : decode cX3_standsFor 75 = .ok (.iconst 0, 1) := by decide +kernel
theorem dX3_standsFor_76 : decode cX3_standsFor 76 = .ok (.ireturn, 1) := by decide +kernel
theorem dX3_standsFor_77 : decode cX3_standsFor 77 = .ok (.iinc 3 1, 3) := by decide +kernel
theorem dX3_standsFor_80 : decode cX3_standsFor 80 = .ok (.goto (-30), 3) := by decide +kernel
theorem dX3_standsFor_83 : decode cX3_standsFor 83 = .ok (.iconst 1, 1) := by decide +kernel
theorem dX3_standsFor_84 : decode cX3_standsFor 84 = .ok (.ireturn, 1) := by decide +kernel
theorem dJ9_max_7cf53_0 : decode cJ9_max_7cf53 0 = .ok (.iload_n 0, 1) := by decide +kernel
theorem dJ9_max_7cf53_1 : decode cJ9_max_7cf53 1 = .ok (.iload_n 1, 1) := by decide +kernel
theorem dJ9_max_7cf53_2 : decode cJ9_max_7cf53 2 = .ok (.if_icmp .lt 7, 3) := by decide +kernel
theorem dJ9_max_7cf53_5 : decode cJ9_max_7cf53 5 = .ok (.iload_n 0, 1) := by decide +kernel
theorem dJ9_max_7cf53_6 : decode cJ9_max_7cf53 6 = .ok (.goto 4, 3) := by decide +kernel
theorem dJ9_max_7cf53_9 : decode cJ9_max_7cf53 9 = .ok (.iload_n 1, 1) := by decide +kernel
theorem dJ9_max_7cf53_10 : decode cJ9_max_7cf53 10 = .ok (.ireturn, 1) := by decide +kernel
theorem dJ7_fill_53178_0 : decode cJ7_fill_53178 0 = .ok (.iconst 0, 1) := by decide +kernel
theorem dJ7_fill_53178_1 : decode cJ7_fill_53178 1 = .ok (.istore_n 2, 1) := by decide +kernel
theorem dJ7_fill_53178_2 : decode cJ7_fill_53178 2 = .ok (.aload_n 0, 1) := by decide +kernel
theorem dJ7_fill_53178_3 : decode cJ7_fill_53178 3 = .ok (.arraylength, 1) := by decide +kernel
theorem dJ7_fill_53178_4 : decode cJ7_fill_53178 4 = .ok (.istore_n 3, 1) := by decide +kernel
theorem dJ7_fill_53178_5 : decode cJ7_fill_53178 5 = .ok (.iload_n 2, 1) := by decide +kernel
theorem dJ7_fill_53178_6 : decode cJ7_fill_53178 6 = .ok (.iload_n 3, 1) := by decide +kernel
theorem dJ7_fill_53178_7 : decode cJ7_fill_53178 7 = .ok (.if_icmp .ge 13, 3) := by decide +kernel
theorem dJ7_fill_53178_10 : decode cJ7_fill_53178 10 = .ok (.aload_n 0, 1) := by decide +kernel
theorem dJ7_fill_53178_11 : decode cJ7_fill_53178 11 = .ok (.iload_n 2, 1) := by decide +kernel
theorem dJ7_fill_53178_12 : decode cJ7_fill_53178 12 = .ok (.iload_n 1, 1) := by decide +kernel
theorem dJ7_fill_53178_13 : decode cJ7_fill_53178 13 = .ok (.iastore, 1) := by decide +kernel
theorem dJ7_fill_53178_14 : decode cJ7_fill_53178 14 = .ok (.iinc 2 1, 3) := by decide +kernel
theorem dJ7_fill_53178_17 : decode cJ7_fill_53178 17 = .ok (.goto (-12), 3) := by decide +kernel
theorem dJ7_fill_53178_20 : decode cJ7_fill_53178 20 = .ok (.return_, 1) := by decide +kernel
end
section
theorem dX4_first_0 : decode cX4_first 0 = .ok (.iload_n 0, 1) := by decide +kernel
theorem dX4_first_1 : decode cX4_first 1 = .ok (.ifCond .lt 19, 3) := by decide +kernel
theorem dX4_first_4 : decode cX4_first 4 = .ok (.iload_n 0, 1) := by decide +kernel
theorem dX4_first_5 : decode cX4_first 5 = .ok (.getstatic 7, 3) := by decide +kernel
theorem dX4_first_8 : decode cX4_first 8 = .ok (.arraylength, 1) := by decide +kernel
theorem dX4_first_9 : decode cX4_first 9 = .ok (.if_icmp .ge 11, 3) := by decide +kernel
theorem dX4_first_12 : decode cX4_first 12 = .ok (.getstatic 7, 3) := by decide +kernel
theorem dX4_first_15 : decode cX4_first 15 = .ok (.iload_n 0, 1) := by decide +kernel
theorem dX4_first_16 : decode cX4_first 16 = .ok (.iaload, 1) := by decide +kernel
theorem dX4_first_17 : decode cX4_first 17 = .ok (.goto 4, 3) := by decide +kernel
theorem dX4_first_20 : decode cX4_first 20 = .ok (.iconst 0, 1) := by decide +kernel
theorem dX4_first_21 : decode cX4_first 21 = .ok (.ireturn, 1) := by decide +kernel
theorem dX4_second_0 : decode cX4_second 0 = .ok (.iload_n 0, 1) := by decide +kernel
theorem dX4_second_1 : decode cX4_second 1 = .ok (.ifCond .lt 19, 3) := by decide +kernel
theorem dX4_second_4 : decode cX4_second 4 = .ok (.iload_n 0, 1) := by decide +kernel
theorem dX4_second_5 : decode cX4_second 5 = .ok (.getstatic 13, 3) := by decide +kernel
theorem dX4_second_8 : decode cX4_second 8 = .ok (.arraylength, 1) := by decide +kernel
theorem dX4_second_9 : decode cX4_second 9 = .ok (.if_icmp .ge 11, 3) := by decide +kernel
theorem dX4_second_12 : decode cX4_second 12 = .ok (.getstatic 13, 3) := by decide +kernel
theorem dX4_second_15 : decode cX4_second 15 = .ok (.iload_n 0, 1) := by decide +kernel
theorem dX4_second_16 : decode cX4_second 16 = .ok (.iaload, 1) := by decide +kernel
theorem dX4_second_17 : decode cX4_second 17 = .ok (.goto 4, 3) := by decide +kernel
theorem dX4_second_20 : decode cX4_second 20 = .ok (.iconst 0, 1) := by decide +kernel
theorem dX4_second_21 : decode cX4_second 21 = .ok (.ireturn, 1) := by decide +kernel
theorem dX4_width_0 : decode cX4_width 0 = .ok (.iload_n 0, 1) := by decide +kernel
theorem dX4_width_1 : decode cX4_width 1 = .ok (.ifCond .lt 19, 3) := by decide +kernel
theorem dX4_width_4 : decode cX4_width 4 = .ok (.iload_n 0, 1) := by decide +kernel
theorem dX4_width_5 : decode cX4_width 5 = .ok (.getstatic 16, 3) := by decide +kernel
theorem dX4_width_8 : decode cX4_width 8 = .ok (.arraylength, 1) := by decide +kernel
theorem dX4_width_9 : decode cX4_width 9 = .ok (.if_icmp .ge 11, 3) := by decide +kernel
theorem dX4_width_12 : decode cX4_width 12 = .ok (.getstatic 16, 3) := by decide +kernel
theorem dX4_width_15 : decode cX4_width 15 = .ok (.iload_n 0, 1) := by decide +kernel
theorem dX4_width_16 : decode cX4_width 16 = .ok (.iaload, 1) := by decide +kernel
theorem dX4_width_17 : decode cX4_width 17 = .ok (.goto 4, 3) := by decide +kernel
theorem dX4_width_20 : decode cX4_width 20 = .ok (.iconst 0, 1) := by decide +kernel
theorem dX4_width_21 : decode cX4_width 21 = .ok (.ireturn, 1) := by decide +kernel
set_option maxRecDepth 20000 in
theorem ggX4_length_X4_first : GoodIn wsX4_length wsX4_first := goodIn_r _ [4, 5] (by decide +kernel) (by decide +kernel)
set_option maxRecDepth 20000 in
theorem gX4_length_X4_first : GoodIn wsX4_length (va_wsS RX4 19 yX4_first wsX4_first) := goodIn_app (goodIn_of _ (by decide +kernel)) ggX4_length_X4_first
set_option maxRecDepth 20000 in
theorem ggX4_length_X4_width : GoodIn wsX4_length wsX4_width := goodIn_r _ [8, 9] (by decide +kernel) (by decide +kernel)
set_option maxRecDepth 20000 in
theorem gX4_length_X4_width : GoodIn wsX4_length (va_wsS RX4 23 yX4_width wsX4_width) := goodIn_app (goodIn_of _ (by decide +kernel)) ggX4_length_X4_width
set_option maxRecDepth 20000 in
theorem ggX4_length_X4_second : GoodIn wsX4_length wsX4_second := goodIn_r _ [12, 13] (by decide +kernel) (by decide +kernel)
set_option maxRecDepth 20000 in
theorem gX4_length_X4_second : GoodIn wsX4_length (va_wsS RX4 26 yX4_second wsX4_second) := goodIn_app (goodIn_of _ (by decide +kernel)) ggX4_length_X4_second
theorem dX4_length_0 : decode cX4_length 0 = .ok (.iconst 1, 1) := by decide +kernel
theorem dX4_length_1 : decode cX4_length 1 = .ok (.iload_n 0, 1) := by decide +kernel
theorem dX4_length_2 : decode cX4_length 2 = .ok (.invokestatic 19, 3) := by decide +kernel
theorem dX4_length_5 : decode cX4_length 5 = .ok (.invokestatic 23, 3) := by decide +kernel
theorem dX4_length_8 : decode cX4_length 8 = .ok (.iadd, 1) := by decide +kernel
theorem dX4_length_9 : decode cX4_length 9 = .ok (.iload_n 0, 1) := by decide +kernel
theorem dX4_length_10 : decode cX4_length 10 = .ok (.invokestatic 26, 3) := by decide +kernel
theorem dX4_length_13 : decode cX4_length 13 = .ok (.invokestatic 23, 3) := by decide +kernel
theorem dX4_length_16 : decode cX4_length 16 = .ok (.iadd, 1) := by decide +kernel
theorem dX4_length_17 : decode cX4_length 17 = .ok (.ireturn, 1) := by decide +kernel
theorem dX5_init_0 : decode cX5_init 0 = .ok (.aload_n 0, 1) := by decide +kernel
theorem dX5_init_1 : decode cX5_init 1 = .ok (.invokespecial 3, 3) := by decide +kernel
theorem dX5_init_4 : decode cX5_init 4 = .ok (.aload_n 0, 1) := by decide +kernel
theorem dX5_init_5 : decode cX5_init 5 = .ok (.sipush 2000, 3) := by decide +kernel
theorem dX5_init_8 : decode cX5_init 8 = .ok (.newarray .int, 2) := by decide +kernel
theorem dX5_init_10 : decode cX5_init 10 = .ok (.putfield 11, 3) := by decide +kernel
theorem dX5_init_13 : decode cX5_init 13 = .ok (.return_, 1) := by decide +kernel
set_option maxRecDepth 20000 in
theorem ggX5_take_X6_length : GoodIn wsX5_take wsX6_length := goodIn_r _ [9, 10, 24, 25] (by decide +kernel) (by decide +kernel)
set_option maxRecDepth 20000 in
theorem gX5_take_X6_length : GoodIn wsX5_take (wsV RX5 17 RX6 yX6_length wsX6_length) := goodIn_app (goodIn_of _ (by decide +kernel)) ggX5_take_X6_length
set_option maxRecDepth 20000 in
theorem ggX5_take_X6_clear : GoodIn wsX5_take wsX6_clear := goodIn_r _ [14, 10, 24, 25] (by decide +kernel) (by decide +kernel)
set_option maxRecDepth 20000 in
theorem gX5_take_X6_clear : GoodIn wsX5_take (wsV RX5 21 RX6 yX6_clear wsX6_clear) := goodIn_app (goodIn_of _ (by decide +kernel)) ggX5_take_X6_clear
set_option maxRecDepth 20000 in
theorem ggX5_take_X6_exchange : GoodIn wsX5_take wsX6_exchange := goodIn_r _ [18, 19, 10, 24, 25] (by decide +kernel) (by decide +kernel)
set_option maxRecDepth 20000 in
theorem gX5_take_X6_exchange : GoodIn wsX5_take (wsV RX5 24 RX6 yX6_exchange wsX6_exchange) := goodIn_app (goodIn_of _ (by decide +kernel)) ggX5_take_X6_exchange
theorem dX5_take_0 : decode cX5_take 0 = .ok (.iload_n 2, 1) := by decide +kernel
theorem dX5_take_1 : decode cX5_take 1 = .ok (.ifCond .lt 11, 3) := by decide +kernel
theorem dX5_take_4 : decode cX5_take 4 = .ok (.iload_n 2, 1) := by decide +kernel
theorem dX5_take_5 : decode cX5_take 5 = .ok (.aload_n 1, 1) := by decide +kernel
theorem dX5_take_6 : decode cX5_take 6 = .ok (.invokevirtual 17, 3) := by decide +kernel
theorem dX5_take_9 : decode cX5_take 9 = .ok (.if_icmp .le 9, 3) := by decide +kernel
theorem dX5_take_12 : decode cX5_take 12 = .ok (.aload_n 1, 1) := by decide +kernel
theorem dX5_take_13 : decode cX5_take 13 = .ok (.invokevirtual 21, 3) := by decide +kernel
theorem dX5_take_16 : decode cX5_take 16 = .ok (.iconst 0, 1) := by decide +kernel
theorem dX5_take_17 : decode cX5_take 17 = .ok (.ireturn, 1) := by decide +kernel
theorem dX5_take_18 : decode cX5_take 18 = .ok (.aload_n 0, 1) := by decide +kernel
theorem dX5_take_19 : decode cX5_take 19 = .ok (.aload_n 1, 1) := by decide +kernel
theorem dX5_take_20 : decode cX5_take 20 = .ok (.aload_n 0, 1) := by decide +kernel
theorem dX5_take_21 : decode cX5_take 21 = .ok (.getfield 11, 3) := by decide +kernel
theorem dX5_take_24 : decode cX5_take 24 = .ok (.invokevirtual 24, 3) := by decide +kernel
theorem dX5_take_27 : decode cX5_take 27 = .ok (.putfield 11, 3) := by decide +kernel
theorem dX5_take_30 : decode cX5_take 30 = .ok (.aload_n 0, 1) := by decide +kernel
theorem dX5_take_31 : decode cX5_take 31 = .ok (.iload_n 2, 1) := by decide +kernel
theorem dX5_take_32 : decode cX5_take 32 = .ok (.putfield 28, 3) := by decide +kernel
theorem dX5_take_35 : decode cX5_take 35 = .ok (.aload_n 0, 1) := by decide +kernel
theorem dX5_take_36 : decode cX5_take 36 = .ok (.iconst 0, 1) := by decide +kernel
theorem dX5_take_37 : decode cX5_take 37 = .ok (.putfield 31, 3) := by decide +kernel
theorem dX5_take_40 : decode cX5_take 40 = .ok (.aload_n 0, 1) := by decide +kernel
theorem dX5_take_41 : decode cX5_take 41 = .ok (.iconst 0, 1) := by decide +kernel
theorem dX5_take_42 : decode cX5_take 42 = .ok (.putfield 34, 3) := by decide +kernel
theorem dX5_take_45 : decode cX5_take 45 = .ok (.iconst 1, 1) := by decide +kernel
theorem dX5_take_46 : decode cX5_take 46 = .ok (.ireturn, 1) := by decide +kernel
theorem dX5_place_0 : decode cX5_place 0 = .ok (.aload_n 0, 1) := by decide +kernel
theorem dX5_place_1 : decode cX5_place 1 = .ok (.getfield 31, 3) := by decide +kernel
theorem dX5_place_4 : decode cX5_place 4 = .ok (.ireturn, 1) := by decide +kernel
theorem dX5_stopped_0 : decode cX5_stopped 0 = .ok (.aload_n 0, 1) := by decide +kernel
theorem dX5_stopped_1 : decode cX5_stopped 1 = .ok (.getfield 34, 3) := by decide +kernel
theorem dX5_stopped_4 : decode cX5_stopped 4 = .ok (.ireturn, 1) := by decide +kernel
theorem dX5_stopAt_0 : decode cX5_stopAt 0 = .ok (.aload_n 0, 1) := by decide +kernel
theorem dX5_stopAt_1 : decode cX5_stopAt 1 = .ok (.iload_n 1, 1) := by decide +kernel
theorem dX5_stopAt_2 : decode cX5_stopAt 2 = .ok (.putfield 31, 3) := by decide +kernel
theorem dX5_stopAt_5 : decode cX5_stopAt 5 = .ok (.aload_n 0, 1) := by decide +kernel
theorem dX5_stopAt_6 : decode cX5_stopAt 6 = .ok (.iconst 1, 1) := by decide +kernel
theorem dX5_stopAt_7 : decode cX5_stopAt 7 = .ok (.putfield 34, 3) := by decide +kernel
theorem dX5_stopAt_10 : decode cX5_stopAt 10 = .ok (.return_, 1) := by decide +kernel
theorem dX5_close_0 : decode cX5_close 0 = .ok (.aload_n 0, 1) := by decide +kernel
theorem dX5_close_1 : decode cX5_close 1 = .ok (.getfield 31, 3) := by decide +kernel
theorem dX5_close_4 : decode cX5_close 4 = .ok (.aload_n 0, 1) := by decide +kernel
theorem dX5_close_5 : decode cX5_close 5 = .ok (.getfield 28, 3) := by decide +kernel
theorem dX5_close_8 : decode cX5_close 8 = .ok (.if_icmp .ge 8, 3) := by decide +kernel
theorem dX5_close_11 : decode cX5_close 11 = .ok (.aload_n 0, 1) := by decide +kernel
theorem dX5_close_12 : decode cX5_close 12 = .ok (.iconst 1, 1) := by decide +kernel
theorem dX5_close_13 : decode cX5_close 13 = .ok (.putfield 34, 3) := by decide +kernel
theorem dX5_close_16 : decode cX5_close 16 = .ok (.return_, 1) := by decide +kernel
set_option maxRecDepth 20000 in
theorem ggX5_next_X5_byteAt : GoodIn wsX5_next wsX5_byteAt := goodIn_r _ [6, 7, 8, 9, 10, 11, 12] (by decide +kernel) (by decide +kernel)
set_option maxRecDepth 20000 in
theorem gX5_next_X5_byteAt : GoodIn wsX5_next (wsV RX5 38 RX5 yX5_byteAt wsX5_byteAt) := goodIn_app (goodIn_of _ (by decide +kernel)) ggX5_next_X5_byteAt
theorem dX5_next_0 : decode cX5_next 0 = .ok (.aload_n 0, 1) := by decide +kernel
theorem dX5_next_1 : decode cX5_next 1 = .ok (.aload_n 0, 1) := by decide +kernel
theorem dX5_next_2 : decode cX5_next 2 = .ok (.getfield 31, 3) := by decide +kernel
theorem dX5_next_5 : decode cX5_next 5 = .ok (.invokevirtual 38, 3) := by decide +kernel
theorem dX5_next_8 : decode cX5_next 8 = .ok (.ireturn, 1) := by decide +kernel
set_option maxRecDepth 20000 in
theorem ggX5_number_X5_byteAt : GoodIn wsX5_number wsX5_byteAt := goodIn_r _ [7, 8, 9, 10, 11, 12, 13] (by decide +kernel) (by decide +kernel)
set_option maxRecDepth 20000 in
theorem gX5_number_X5_byteAt : GoodIn wsX5_number (wsV RX5 38 RX5 yX5_byteAt wsX5_byteAt) := goodIn_app (goodIn_of _ (by decide +kernel)) ggX5_number_X5_byteAt
theorem dX5_number_0 : decode cX5_number 0 = .ok (.aload_n 0, 1) := by decide +kernel
theorem dX5_number_1 : decode cX5_number 1 = .ok (.aload_n 0, 1) := by decide +kernel
theorem dX5_number_2 : decode cX5_number 2 = .ok (.getfield 31, 3) := by decide +kernel
theorem dX5_number_5 : decode cX5_number 5 = .ok (.invokevirtual 38, 3) := by decide +kernel
theorem dX5_number_8 : decode cX5_number 8 = .ok (.istore_n 3, 1) := by decide +kernel
theorem dX5_number_9 : decode cX5_number 9 = .ok (.aload_n 0, 1) := by decide +kernel
theorem dX5_number_10 : decode cX5_number 10 = .ok (.getfield 34, 3) := by decide +kernel
theorem dX5_number_13 : decode cX5_number 13 = .ok (.ifCond .ne 18, 3) := by decide +kernel
theorem dX5_number_16 : decode cX5_number 16 = .ok (.iload_n 3, 1) := by decide +kernel
theorem dX5_number_17 : decode cX5_number 17 = .ok (.iconst (-1), 1) := by decide +kernel
theorem dX5_number_18 : decode cX5_number 18 = .ok (.if_icmp .eq 13, 3) := by decide +kernel
theorem dX5_number_21 : decode cX5_number 21 = .ok (.iload_n 3, 1) := by decide +kernel
theorem dX5_number_22 : decode cX5_number 22 = .ok (.iload_n 1, 1) := by decide +kernel
theorem dX5_number_23 : decode cX5_number 23 = .ok (.if_icmp .lt 8, 3) := by decide +kernel
theorem dX5_number_26 : decode cX5_number 26 = .ok (.iload_n 3, 1) := by decide +kernel
theorem dX5_number_27 : decode cX5_number 27 = .ok (.iload_n 2, 1) := by decide +kernel
theorem dX5_number_28 : decode cX5_number 28 = .ok (.if_icmp .le 10, 3) := by decide +kernel
theorem dX5_number_31 : decode cX5_number 31 = .ok (.aload_n 0, 1) := by decide +kernel
theorem dX5_number_32 : decode cX5_number 32 = .ok (.iconst 1, 1) := by decide +kernel
theorem dX5_number_33 : decode cX5_number 33 = .ok (.putfield 34, 3) := by decide +kernel
theorem dX5_number_36 : decode cX5_number 36 = .ok (.iconst (-1), 1) := by decide +kernel
theorem dX5_number_37 : decode cX5_number 37 = .ok (.ireturn, 1) := by decide +kernel
theorem dX5_number_38 : decode cX5_number 38 = .ok (.aload_n 0, 1) := by decide +kernel
theorem dX5_number_39 : decode cX5_number 39 = .ok (.dup, 1) := by decide +kernel
theorem dX5_number_40 : decode cX5_number 40 = .ok (.getfield 31, 3) := by decide +kernel
theorem dX5_number_43 : decode cX5_number 43 = .ok (.iconst 1, 1) := by decide +kernel
theorem dX5_number_44 : decode cX5_number 44 = .ok (.iadd, 1) := by decide +kernel
theorem dX5_number_45 : decode cX5_number 45 = .ok (.putfield 31, 3) := by decide +kernel
theorem dX5_number_48 : decode cX5_number 48 = .ok (.iload_n 3, 1) := by decide +kernel
theorem dX5_number_49 : decode cX5_number 49 = .ok (.ireturn, 1) := by decide +kernel
set_option maxRecDepth 20000 in
theorem ggX5_numberOrNothing_X5_next : GoodIn wsX5_numberOrNothing wsX5_next := goodIn_r _ [5, 6, 7, 8, 9, 4, 10, 11, 12, 18, 19, 20, 21] (by decide +kernel) (by decide +kernel)
set_option maxRecDepth 20000 in
theorem gX5_numberOrNothing_X5_next : GoodIn wsX5_numberOrNothing (wsV RX5 42 RX5 yX5_next wsX5_next) := goodIn_app (goodIn_of _ (by decide +kernel)) ggX5_numberOrNothing_X5_next
set_option maxRecDepth 20000 in
theorem ggX5_numberOrNothing_X5_number : GoodIn wsX5_numberOrNothing wsX5_number := goodIn_r _ [16, 6, 17, 7, 8, 9, 4, 10, 11, 12, 18, 19, 20, 21] (by decide +kernel) (by decide +kernel)
set_option maxRecDepth 20000 in
theorem gX5_numberOrNothing_X5_number : GoodIn wsX5_numberOrNothing (wsV RX5 45 RX5 yX5_number wsX5_number) := goodIn_app (goodIn_of _ (by decide +kernel)) ggX5_numberOrNothing_X5_number
theorem dX5_numberOrNothing_0 : decode cX5_numberOrNothing 0 = .ok (.aload_n 0, 1) := by decide +kernel
theorem dX5_numberOrNothing_1 : decode cX5_numberOrNothing 1 = .ok (.invokevirtual 42, 3) := by decide +kernel
theorem dX5_numberOrNothing_4 : decode cX5_numberOrNothing 4 = .ok (.sipush 255, 3) := by decide +kernel
theorem dX5_numberOrNothing_7 : decode cX5_numberOrNothing 7 = .ok (.if_icmp .ne 16, 3) := by decide +kernel
theorem dX5_numberOrNothing_10 : decode cX5_numberOrNothing 10 = .ok (.aload_n 0, 1) := by decide +kernel
theorem dX5_numberOrNothing_11 : decode cX5_numberOrNothing 11 = .ok (.sipush 255, 3) := by decide +kernel
theorem dX5_numberOrNothing_14 : decode cX5_numberOrNothing 14 = .ok (.sipush 255, 3) := by decide +kernel
theorem dX5_numberOrNothing_17 : decode cX5_numberOrNothing 17 = .ok (.invokevirtual 45, 3) := by decide +kernel
theorem dX5_numberOrNothing_20 : decode cX5_numberOrNothing 20 = .ok (.goto 9, 3) := by decide +kernel
theorem dX5_numberOrNothing_23 : decode cX5_numberOrNothing 23 = .ok (.aload_n 0, 1) := by decide +kernel
theorem dX5_numberOrNothing_24 : decode cX5_numberOrNothing 24 = .ok (.iconst 0, 1) := by decide +kernel
theorem dX5_numberOrNothing_25 : decode cX5_numberOrNothing 25 = .ok (.iload_n 1, 1) := by decide +kernel
theorem dX5_numberOrNothing_26 : decode cX5_numberOrNothing 26 = .ok (.invokevirtual 45, 3) := by decide +kernel
theorem dX5_numberOrNothing_29 : decode cX5_numberOrNothing 29 = .ok (.ireturn, 1) := by decide +kernel
set_option maxRecDepth 20000 in
theorem ggX5_type_X5_next : GoodIn wsX5_type wsX5_next := goodIn_r _ [5, 6, 7, 8, 9, 4, 10, 11, 12, 18, 19, 20, 21] (by decide +kernel) (by decide +kernel)
set_option maxRecDepth 20000 in
theorem gX5_type_X5_next : GoodIn wsX5_type (wsV RX5 42 RX5 yX5_next wsX5_next) := goodIn_app (goodIn_of _ (by decide +kernel)) ggX5_type_X5_next
set_option maxRecDepth 20000 in
theorem ggX5_type_X5_number : GoodIn wsX5_type wsX5_number := goodIn_r _ [16, 6, 17, 7, 8, 9, 4, 10, 11, 12, 18, 19, 20, 21] (by decide +kernel) (by decide +kernel)
set_option maxRecDepth 20000 in
theorem gX5_type_X5_number : GoodIn wsX5_type (wsV RX5 45 RX5 yX5_number wsX5_number) := goodIn_app (goodIn_of _ (by decide +kernel)) ggX5_type_X5_number
theorem dX5_type_0 : decode cX5_type 0 = .ok (.aload_n 0, 1) := by decide +kernel
theorem dX5_type_1 : decode cX5_type 1 = .ok (.invokevirtual 42, 3) := by decide +kernel
theorem dX5_type_4 : decode cX5_type 4 = .ok (.bipush 64, 2) := by decide +kernel
theorem dX5_type_6 : decode cX5_type 6 = .ok (.if_icmp .ge 12, 3) := by decide +kernel
theorem dX5_type_9 : decode cX5_type 9 = .ok (.aload_n 0, 1) := by decide +kernel
theorem dX5_type_10 : decode cX5_type 10 = .ok (.iconst 0, 1) := by decide +kernel
theorem dX5_type_11 : decode cX5_type 11 = .ok (.iload_n 1, 1) := by decide +kernel
theorem dX5_type_12 : decode cX5_type 12 = .ok (.invokevirtual 45, 3) := by decide +kernel
theorem dX5_type_15 : decode cX5_type 15 = .ok (.goto 13, 3) := by decide +kernel
theorem dX5_type_18 : decode cX5_type 18 = .ok (.aload_n 0, 1) := by decide +kernel
theorem dX5_type_19 : decode cX5_type 19 = .ok (.bipush 64, 2) := by decide +kernel
theorem dX5_type_21 : decode cX5_type 21 = .ok (.bipush 64, 2) := by decide +kernel
theorem dX5_type_23 : decode cX5_type 23 = .ok (.iload_n 1, 1) := by decide +kernel
theorem dX5_type_24 : decode cX5_type 24 = .ok (.iadd, 1) := by decide +kernel
theorem dX5_type_25 : decode cX5_type 25 = .ok (.invokevirtual 45, 3) := by decide +kernel
theorem dX5_type_28 : decode cX5_type 28 = .ok (.ireturn, 1) := by decide +kernel
set_option maxRecDepth 20000 in
theorem ggX5_typeOrNothing_X5_next : GoodIn wsX5_typeOrNothing wsX5_next := goodIn_r _ [5, 6, 7, 8, 9, 4, 10, 11, 12, 22, 23, 24, 25] (by decide +kernel) (by decide +kernel)
set_option maxRecDepth 20000 in
theorem gX5_typeOrNothing_X5_next : GoodIn wsX5_typeOrNothing (wsV RX5 42 RX5 yX5_next wsX5_next) := goodIn_app (goodIn_of _ (by decide +kernel)) ggX5_typeOrNothing_X5_next
set_option maxRecDepth 20000 in
theorem ggX5_typeOrNothing_X5_number : GoodIn wsX5_typeOrNothing wsX5_number := goodIn_r _ [16, 6, 17, 7, 8, 9, 4, 10, 11, 12, 22, 23, 24, 25] (by decide +kernel) (by decide +kernel)
set_option maxRecDepth 20000 in
theorem gX5_typeOrNothing_X5_number : GoodIn wsX5_typeOrNothing (wsV RX5 45 RX5 yX5_number wsX5_number) := goodIn_app (goodIn_of _ (by decide +kernel)) ggX5_typeOrNothing_X5_number
set_option maxRecDepth 20000 in
theorem ggX5_typeOrNothing_X5_type : GoodIn wsX5_typeOrNothing wsX5_type := goodIn_r _ [21, 1, 2, 3, 4, 5, 6, 7, 8, 9, 10, 11, 12, 13, 14, 15, 16, 17, 22, 23, 24, 25] (by decide +kernel) (by decide +kernel)
set_option maxRecDepth 20000 in
theorem gX5_typeOrNothing_X5_type : GoodIn wsX5_typeOrNothing (wsV RX5 49 RX5 yX5_type wsX5_type) := goodIn_app (goodIn_of _ (by decide +kernel)) ggX5_typeOrNothing_X5_type
theorem dX5_typeOrNothing_0 : decode cX5_typeOrNothing 0 = .ok (.aload_n 0, 1) := by decide +kernel
theorem dX5_typeOrNothing_1 : decode cX5_typeOrNothing 1 = .ok (.invokevirtual 42, 3) := by decide +kernel
theorem dX5_typeOrNothing_4 : decode cX5_typeOrNothing 4 = .ok (.sipush 255, 3) := by decide +kernel
theorem dX5_typeOrNothing_7 : decode cX5_typeOrNothing 7 = .ok (.if_icmp .ne 16, 3) := by decide +kernel
theorem dX5_typeOrNothing_10 : decode cX5_typeOrNothing 10 = .ok (.aload_n 0, 1) := by decide +kernel
theorem dX5_typeOrNothing_11 : decode cX5_typeOrNothing 11 = .ok (.sipush 255, 3) := by decide +kernel
theorem dX5_typeOrNothing_14 : decode cX5_typeOrNothing 14 = .ok (.sipush 255, 3) := by decide +kernel
theorem dX5_typeOrNothing_17 : decode cX5_typeOrNothing 17 = .ok (.invokevirtual 45, 3) := by decide +kernel
theorem dX5_typeOrNothing_20 : decode cX5_typeOrNothing 20 = .ok (.goto 8, 3) := by decide +kernel
theorem dX5_typeOrNothing_23 : decode cX5_typeOrNothing 23 = .ok (.aload_n 0, 1) := by decide +kernel
theorem dX5_typeOrNothing_24 : decode cX5_typeOrNothing 24 = .ok (.iload_n 1, 1) := by decide +kernel
theorem dX5_typeOrNothing_25 : decode cX5_typeOrNothing 25 = .ok (.invokevirtual 49, 3) := by decide +kernel
theorem dX5_typeOrNothing_28 : decode cX5_typeOrNothing 28 = .ok (.ireturn, 1) := by decide +kernel
set_option maxRecDepth 20000 in
theorem ggX5_pair_X5_number : GoodIn wsX5_pair wsX5_number := goodIn_r _ [6, 7, 1, 8, 9, 10, 5, 11, 12, 13, 14, 15, 16, 17] (by decide +kernel) (by decide +kernel)
set_option maxRecDepth 20000 in
theorem gX5_pair_X5_number : GoodIn wsX5_pair (wsV RX5 45 RX5 yX5_number wsX5_number) := goodIn_app (goodIn_of _ (by decide +kernel)) ggX5_pair_X5_number
theorem dX5_pair_0 : decode cX5_pair 0 = .ok (.aload_n 0, 1) := by decide +kernel
theorem dX5_pair_1 : decode cX5_pair 1 = .ok (.iload_n 1, 1) := by decide +kernel
theorem dX5_pair_2 : decode cX5_pair 2 = .ok (.bipush 8, 2) := by decide +kernel
theorem dX5_pair_4 : decode cX5_pair 4 = .ok (.ishr, 1) := by decide +kernel
theorem dX5_pair_5 : decode cX5_pair 5 = .ok (.iload_n 2, 1) := by decide +kernel
theorem dX5_pair_6 : decode cX5_pair 6 = .ok (.bipush 8, 2) := by decide +kernel
theorem dX5_pair_8 : decode cX5_pair 8 = .ok (.ishr, 1) := by decide +kernel
theorem dX5_pair_9 : decode cX5_pair 9 = .ok (.invokevirtual 45, 3) := by decide +kernel
theorem dX5_pair_12 : decode cX5_pair 12 = .ok (.istore_n 3, 1) := by decide +kernel
theorem dX5_pair_13 : decode cX5_pair 13 = .ok (.aload_n 0, 1) := by decide +kernel
theorem dX5_pair_14 : decode cX5_pair 14 = .ok (.iload_n 3, 1) := by decide +kernel
theorem dX5_pair_15 : decode cX5_pair 15 = .ok (.iload_n 1, 1) := by decide +kernel
theorem dX5_pair_16 : decode cX5_pair 16 = .ok (.bipush 8, 2) := by decide +kernel
theorem dX5_pair_18 : decode cX5_pair 18 = .ok (.ishr, 1) := by decide +kernel
theorem dX5_pair_19 : decode cX5_pair 19 = .ok (.if_icmp .ne 11, 3) := by decide +kernel
theorem dX5_pair_22 : decode cX5_pair 22 = .ok (.iload_n 1, 1) := by decide +kernel
theorem dX5_pair_23 : decode cX5_pair 23 = .ok (.sipush 255, 3) := by decide +kernel
theorem dX5_pair_26 : decode cX5_pair 26 = .ok (.iand, 1) := by decide +kernel
theorem dX5_pair_27 : decode cX5_pair 27 = .ok (.goto 4, 3) := by decide +kernel
theorem dX5_pair_30 : decode cX5_pair 30 = .ok (.iconst 0, 1) := by decide +kernel
theorem dX5_pair_31 : decode cX5_pair 31 = .ok (.iload_n 3, 1) := by decide +kernel
theorem dX5_pair_32 : decode cX5_pair 32 = .ok (.iload_n 2, 1) := by decide +kernel
theorem dX5_pair_33 : decode cX5_pair 33 = .ok (.bipush 8, 2) := by decide +kernel
theorem dX5_pair_35 : decode cX5_pair 35 = .ok (.ishr, 1) := by decide +kernel
theorem dX5_pair_36 : decode cX5_pair 36 = .ok (.if_icmp .ne 11, 3) := by decide +kernel
theorem dX5_pair_39 : decode cX5_pair 39 = .ok (.iload_n 2, 1) := by decide +kernel
theorem dX5_pair_40 : decode cX5_pair 40 = .ok (.sipush 255, 3) := by decide +kernel
theorem dX5_pair_43 : decode cX5_pair 43 = .ok (.iand, 1) := by decide +kernel
theorem dX5_pair_44 : decode cX5_pair 44 = .ok (.goto 6, 3) := by decide +kernel
theorem dX5_pair_47 : decode cX5_pair 47 = .ok (.sipush 255, 3) := by decide +kernel
theorem dX5_pair_50 : decode cX5_pair 50 = .ok (.invokevirtual 45, 3) := by decide +kernel
theorem dX5_pair_53 : decode cX5_pair 53 = .ok (.istore 4, 2) := by decide +kernel
theorem dX5_pair_55 : decode cX5_pair 55 = .ok (.aload_n 0, 1) := by decide +kernel
theorem dX5_pair_56 : decode cX5_pair 56 = .ok (.getfield 34, 3) := by decide +kernel
theorem dX5_pair_59 : decode cX5_pair 59 = .ok (.ifCond .eq 7, 3) := by decide +kernel
theorem dX5_pair_62 : decode cX5_pair 62 = .ok (.iconst (-1), 1) := by decide +kernel
theorem dX5_pair_63 : decode cX5_pair 63 = .ok (.goto 10, 3) := by decide +kernel
theorem dX5_pair_66 : decode cX5_pair 66 = .ok (.iload_n 3, 1) := by decide +kernel
theorem dX5_pair_67 : decode cX5_pair 67 = .ok (.bipush 8, 2) := by decide +kernel
theorem dX5_pair_69 : decode cX5_pair 69 = .ok (.ishl, 1) := by decide +kernel
theorem dX5_pair_70 : decode cX5_pair 70 = .ok (.iload 4, 2) := by decide +kernel
theorem dX5_pair_72 : decode cX5_pair 72 = .ok (.ior, 1) := by decide +kernel
theorem dX5_pair_73 : decode cX5_pair 73 = .ok (.ireturn, 1) := by decide +kernel
set_option maxRecDepth 20000 in
theorem ggX5_skip_X5_stopAt : GoodIn wsX5_skip wsX5_stopAt := goodIn_r _ [8, 3, 1, 9, 10, 11, 12] (by decide +kernel) (by decide +kernel)
set_option maxRecDepth 20000 in
theorem gX5_skip_X5_stopAt : GoodIn wsX5_skip (wsV RX5 52 RX5 yX5_stopAt wsX5_stopAt) := goodIn_app (goodIn_of _ (by decide +kernel)) ggX5_skip_X5_stopAt
theorem dX5_skip_0 : decode cX5_skip 0 = .ok (.aload_n 0, 1) := by decide +kernel
theorem dX5_skip_1 : decode cX5_skip 1 = .ok (.getfield 34, 3) := by decide +kernel
theorem dX5_skip_4 : decode cX5_skip 4 = .ok (.ifCond .eq 4, 3) := by decide +kernel
theorem dX5_skip_7 : decode cX5_skip 7 = .ok (.return_, 1) := by decide +kernel
theorem dX5_skip_8 : decode cX5_skip 8 = .ok (.iload_n 1, 1) := by decide +kernel
theorem dX5_skip_9 : decode cX5_skip 9 = .ok (.aload_n 0, 1) := by decide +kernel
theorem dX5_skip_10 : decode cX5_skip 10 = .ok (.getfield 28, 3) := by decide +kernel
theorem dX5_skip_13 : decode cX5_skip 13 = .ok (.aload_n 0, 1) := by decide +kernel
theorem dX5_skip_14 : decode cX5_skip 14 = .ok (.getfield 31, 3) := by decide +kernel
theorem dX5_skip_17 : decode cX5_skip 17 = .ok (.isub, 1) := by decide +kernel
theorem dX5_skip_18 : decode cX5_skip 18 = .ok (.if_icmp .le 12, 3) := by decide +kernel
theorem dX5_skip_21 : decode cX5_skip 21 = .ok (.aload_n 0, 1) := by decide +kernel
theorem dX5_skip_22 : decode cX5_skip 22 = .ok (.aload_n 0, 1) := by decide +kernel
theorem dX5_skip_23 : decode cX5_skip 23 = .ok (.getfield 28, 3) := by decide +kernel
theorem dX5_skip_26 : decode cX5_skip 26 = .ok (.invokevirtual 52, 3) := by decide +kernel
theorem dX5_skip_29 : decode cX5_skip 29 = .ok (.return_, 1) := by decide +kernel
theorem dX5_skip_30 : decode cX5_skip 30 = .ok (.aload_n 0, 1) := by decide +kernel
theorem dX5_skip_31 : decode cX5_skip 31 = .ok (.dup, 1) := by decide +kernel
theorem dX5_skip_32 : decode cX5_skip 32 = .ok (.getfield 31, 3) := by decide +kernel
theorem dX5_skip_35 : decode cX5_skip 35 = .ok (.iload_n 1, 1) := by decide +kernel
theorem dX5_skip_36 : decode cX5_skip 36 = .ok (.iadd, 1) := by decide +kernel
theorem dX5_skip_37 : decode cX5_skip 37 = .ok (.putfield 31, 3) := by decide +kernel
theorem dX5_skip_40 : decode cX5_skip 40 = .ok (.return_, 1) := by decide +kernel
theorem dX5_byteAt_0 : decode cX5_byteAt 0 = .ok (.iload_n 1, 1) := by decide +kernel
theorem dX5_byteAt_1 : decode cX5_byteAt 1 = .ok (.iconst 2, 1) := by decide +kernel
theorem dX5_byteAt_2 : decode cX5_byteAt 2 = .ok (.ishr, 1) := by decide +kernel
theorem dX5_byteAt_3 : decode cX5_byteAt 3 = .ok (.istore_n 2, 1) := by decide +kernel
theorem dX5_byteAt_4 : decode cX5_byteAt 4 = .ok (.iload_n 1, 1) := by decide +kernel
theorem dX5_byteAt_5 : decode cX5_byteAt 5 = .ok (.ifCond .lt 20, 3) := by decide +kernel
theorem dX5_byteAt_8 : decode cX5_byteAt 8 = .ok (.iload_n 1, 1) := by decide +kernel
theorem dX5_byteAt_9 : decode cX5_byteAt 9 = .ok (.aload_n 0, 1) := by decide +kernel
theorem dX5_byteAt_10 : decode cX5_byteAt 10 = .ok (.getfield 28, 3) := by decide +kernel
theorem dX5_byteAt_13 : decode cX5_byteAt 13 = .ok (.if_icmp .ge 12, 3) := by decide +kernel
theorem dX5_byteAt_16 : decode cX5_byteAt 16 = .ok (.iload_n 2, 1) := by decide +kernel
theorem dX5_byteAt_17 : decode cX5_byteAt 17 = .ok (.aload_n 0, 1) := by decide +kernel
theorem dX5_byteAt_18 : decode cX5_byteAt 18 = .ok (.getfield 11, 3) := by decide +kernel
theorem dX5_byteAt_21 : decode cX5_byteAt 21 = .ok (.arraylength, 1) := by decide +kernel
theorem dX5_byteAt_22 : decode cX5_byteAt 22 = .ok (.if_icmp .lt 5, 3) := by decide +kernel
theorem dX5_byteAt_25 : decode cX5_byteAt 25 = .ok (.iconst (-1), 1) := by decide +kernel
theorem dX5_byteAt_26 : decode cX5_byteAt 26 = .ok (.ireturn, 1) := by decide +kernel
theorem dX5_byteAt_27 : decode cX5_byteAt 27 = .ok (.aload_n 0, 1) := by decide +kernel
theorem dX5_byteAt_28 : decode cX5_byteAt 28 = .ok (.getfield 11, 3) := by decide +kernel
theorem dX5_byteAt_31 : decode cX5_byteAt 31 = .ok (.iload_n 2, 1) := by decide +kernel
theorem dX5_byteAt_32 : decode cX5_byteAt 32 = .ok (.iaload, 1) := by decide +kernel
theorem dX5_byteAt_33 : decode cX5_byteAt 33 = .ok (.bipush 24, 2) := by decide +kernel
theorem dX5_byteAt_35 : decode cX5_byteAt 35 = .ok (.bipush 8, 2) := by decide +kernel
theorem dX5_byteAt_37 : decode cX5_byteAt 37 = .ok (.iload_n 1, 1) := by decide +kernel
theorem dX5_byteAt_38 : decode cX5_byteAt 38 = .ok (.iconst 3, 1) := by decide +kernel
theorem dX5_byteAt_39 : decode cX5_byteAt 39 = .ok (.iand, 1) := by decide +kernel
theorem dX5_byteAt_40 : decode cX5_byteAt 40 = .ok (.imul, 1) := by decide +kernel
theorem dX5_byteAt_41 : decode cX5_byteAt 41 = .ok (.isub, 1) := by decide +kernel
theorem dX5_byteAt_42 : decode cX5_byteAt 42 = .ok (.iushr, 1) := by decide +kernel
theorem dX5_byteAt_43 : decode cX5_byteAt 43 = .ok (.sipush 255, 3) := by decide +kernel
theorem dX5_byteAt_46 : decode cX5_byteAt 46 = .ok (.iand, 1) := by decide +kernel
theorem dX5_byteAt_47 : decode cX5_byteAt 47 = .ok (.ireturn, 1) := by decide +kernel
set_option maxRecDepth 20000 in
theorem ggX5_valueAt_X5_byteAt : GoodIn wsX5_valueAt wsX5_byteAt := goodIn_r _ [5, 6, 7, 8, 9, 10, 11] (by decide +kernel) (by decide +kernel)
set_option maxRecDepth 20000 in
theorem gX5_valueAt_X5_byteAt : GoodIn wsX5_valueAt (wsV RX5 38 RX5 yX5_byteAt wsX5_byteAt) := goodIn_app (goodIn_of _ (by decide +kernel)) ggX5_valueAt_X5_byteAt
theorem dX5_valueAt_0 : decode cX5_valueAt 0 = .ok (.iconst 0, 1) := by decide +kernel
theorem dX5_valueAt_1 : decode cX5_valueAt 1 = .ok (.istore_n 3, 1) := by decide +kernel
theorem dX5_valueAt_2 : decode cX5_valueAt 2 = .ok (.iconst 0, 1) := by decide +kernel
theorem dX5_valueAt_3 : decode cX5_valueAt 3 = .ok (.istore 4, 2) := by decide +kernel
theorem dX5_valueAt_5 : decode cX5_valueAt 5 = .ok (.iload 4, 2) := by decide +kernel
theorem dX5_valueAt_7 : decode cX5_valueAt 7 = .ok (.iload_n 2, 1) := by decide +kernel
theorem dX5_valueAt_8 : decode cX5_valueAt 8 = .ok (.if_icmp .ge 23, 3) := by decide +kernel
theorem dX5_valueAt_11 : decode cX5_valueAt 11 = .ok (.iload_n 3, 1) := by decide +kernel
theorem dX5_valueAt_12 : decode cX5_valueAt 12 = .ok (.bipush 8, 2) := by decide +kernel
theorem dX5_valueAt_14 : decode cX5_valueAt 14 = .ok (.ishl, 1) := by decide +kernel
theorem dX5_valueAt_15 : decode cX5_valueAt 15 = .ok (.aload_n 0, 1) := by decide +kernel
theorem dX5_valueAt_16 : decode cX5_valueAt 16 = .ok (.iload_n 1, 1) := by decide +kernel
theorem dX5_valueAt_17 : decode cX5_valueAt 17 = .ok (.iload 4, 2) := by decide +kernel
theorem dX5_valueAt_19 : decode cX5_valueAt 19 = .ok (.iadd, 1) := by decide +kernel
theorem dX5_valueAt_20 : decode cX5_valueAt 20 = .ok (.invokevirtual 38, 3) := by decide +kernel
theorem dX5_valueAt_23 : decode cX5_valueAt 23 = .ok (.ior, 1) := by decide +kernel
theorem dX5_valueAt_24 : decode cX5_valueAt 24 = .ok (.istore_n 3, 1) := by decide +kernel
theorem dX5_valueAt_25 : decode cX5_valueAt 25 = .ok (.iinc 4 1, 3) := by decide +kernel
theorem dX5_valueAt_28 : decode cX5_valueAt 28 = .ok (.goto (-23), 3) := by decide +kernel
theorem dX5_valueAt_31 : decode cX5_valueAt 31 = .ok (.iload_n 3, 1) := by decide +kernel
theorem dX5_valueAt_32 : decode cX5_valueAt 32 = .ok (.ireturn, 1) := by decide +kernel
theorem dX6_init_0 : decode cX6_init 0 = .ok (.aload_n 0, 1) := by decide +kernel
theorem dX6_init_1 : decode cX6_init 1 = .ok (.invokespecial 1, 3) := by decide +kernel
theorem dX6_init_4 : decode cX6_init 4 = .ok (.aload_n 0, 1) := by decide +kernel
theorem dX6_init_5 : decode cX6_init 5 = .ok (.sipush 2000, 3) := by decide +kernel
theorem dX6_init_8 : decode cX6_init 8 = .ok (.newarray .int, 2) := by decide +kernel
theorem dX6_init_10 : decode cX6_init 10 = .ok (.putfield 9, 3) := by decide +kernel
theorem dX6_init_13 : decode cX6_init 13 = .ok (.return_, 1) := by decide +kernel
theorem dX6_add_0 : decode cX6_add 0 = .ok (.aload_n 0, 1) := by decide +kernel
theorem dX6_add_1 : decode cX6_add 1 = .ok (.getfield 13, 3) := by decide +kernel
theorem dX6_add_4 : decode cX6_add 4 = .ok (.ifCond .lt 17, 3) := by decide +kernel
theorem dX6_add_7 : decode cX6_add 7 = .ok (.aload_n 0, 1) := by decide +kernel
theorem dX6_add_8 : decode cX6_add 8 = .ok (.getfield 13, 3) := by decide +kernel
theorem dX6_add_11 : decode cX6_add 11 = .ok (.aload_n 0, 1) := by decide +kernel
theorem dX6_add_12 : decode cX6_add 12 = .ok (.getfield 9, 3) := by decide +kernel
theorem dX6_add_15 : decode cX6_add 15 = .ok (.arraylength, 1) := by decide +kernel
theorem dX6_add_16 : decode cX6_add 16 = .ok (.iconst 5, 1) := by decide +kernel
theorem dX6_add_17 : decode cX6_add 17 = .ok (.isub, 1) := by decide +kernel
theorem dX6_add_18 : decode cX6_add 18 = .ok (.if_icmp .le 5, 3) := by decide +kernel
theorem dX6_add_21 : decode cX6_add 21 = .ok (.iconst 0, 1) := by decide +kernel
theorem dX6_add_22 : decode cX6_add 22 = .ok (.ireturn, 1) := by decide +kernel
theorem dX6_add_23 : decode cX6_add 23 = .ok (.aload_n 0, 1) := by decide +kernel
theorem dX6_add_24 : decode cX6_add 24 = .ok (.getfield 9, 3) := by decide +kernel
theorem dX6_add_27 : decode cX6_add 27 = .ok (.aload_n 0, 1) := by decide +kernel
theorem dX6_add_28 : decode cX6_add 28 = .ok (.getfield 13, 3) := by decide +kernel
theorem dX6_add_31 : decode cX6_add 31 = .ok (.iload_n 1, 1) := by decide +kernel
theorem dX6_add_32 : decode cX6_add 32 = .ok (.iastore, 1) := by decide +kernel
theorem dX6_add_33 : decode cX6_add 33 = .ok (.aload_n 0, 1) := by decide +kernel
theorem dX6_add_34 : decode cX6_add 34 = .ok (.getfield 9, 3) := by decide +kernel
theorem dX6_add_37 : decode cX6_add 37 = .ok (.aload_n 0, 1) := by decide +kernel
theorem dX6_add_38 : decode cX6_add 38 = .ok (.getfield 13, 3) := by decide +kernel
theorem dX6_add_41 : decode cX6_add 41 = .ok (.iconst 1, 1) := by decide +kernel
theorem dX6_add_42 : decode cX6_add 42 = .ok (.iadd, 1) := by decide +kernel
theorem dX6_add_43 : decode cX6_add 43 = .ok (.iload_n 2, 1) := by decide +kernel
theorem dX6_add_44 : decode cX6_add 44 = .ok (.iastore, 1) := by decide +kernel
theorem dX6_add_45 : decode cX6_add 45 = .ok (.aload_n 0, 1) := by decide +kernel
theorem dX6_add_46 : decode cX6_add 46 = .ok (.getfield 9, 3) := by decide +kernel
theorem dX6_add_49 : decode cX6_add 49 = .ok (.aload_n 0, 1) := by decide +kernel
theorem dX6_add_50 : decode cX6_add 50 = .ok (.getfield 13, 3) := by decide +kernel
theorem dX6_add_53 : decode cX6_add 53 = .ok (.iconst 2, 1) := by decide +kernel
theorem dX6_add_54 : decode cX6_add 54 = .ok (.iadd, 1) := by decide +kernel
theorem dX6_add_55 : decode cX6_add 55 = .ok (.iload_n 3, 1) := by decide +kernel
theorem dX6_add_56 : decode cX6_add 56 = .ok (.iastore, 1) := by decide +kernel
theorem dX6_add_57 : decode cX6_add 57 = .ok (.aload_n 0, 1) := by decide +kernel
theorem dX6_add_58 : decode cX6_add 58 = .ok (.getfield 9, 3) := by decide +kernel
theorem dX6_add_61 : decode cX6_add 61 = .ok (.aload_n 0, 1) := by decide +kernel
theorem dX6_add_62 : decode cX6_add 62 = .ok (.getfield 13, 3) := by decide +kernel
theorem dX6_add_65 : decode cX6_add 65 = .ok (.iconst 3, 1) := by decide +kernel
theorem dX6_add_66 : decode cX6_add 66 = .ok (.iadd, 1) := by decide +kernel
theorem dX6_add_67 : decode cX6_add 67 = .ok (.iload 4, 2) := by decide +kernel
theorem dX6_add_69 : decode cX6_add 69 = .ok (.iastore, 1) := by decide +kernel
theorem dX6_add_70 : decode cX6_add 70 = .ok (.aload_n 0, 1) := by decide +kernel
theorem dX6_add_71 : decode cX6_add 71 = .ok (.getfield 9, 3) := by decide +kernel
theorem dX6_add_74 : decode cX6_add 74 = .ok (.aload_n 0, 1) := by decide +kernel
theorem dX6_add_75 : decode cX6_add 75 = .ok (.getfield 13, 3) := by decide +kernel
theorem dX6_add_78 : decode cX6_add 78 = .ok (.iconst 4, 1) := by decide +kernel
theorem dX6_add_79 : decode cX6_add 79 = .ok (.iadd, 1) := by decide +kernel
theorem dX6_add_80 : decode cX6_add 80 = .ok (.iload 5, 2) := by decide +kernel
theorem dX6_add_82 : decode cX6_add 82 = .ok (.iastore, 1) := by decide +kernel
theorem dX6_add_83 : decode cX6_add 83 = .ok (.aload_n 0, 1) := by decide +kernel
theorem dX6_add_84 : decode cX6_add 84 = .ok (.dup, 1) := by decide +kernel
theorem dX6_add_85 : decode cX6_add 85 = .ok (.getfield 13, 3) := by decide +kernel
theorem dX6_add_88 : decode cX6_add 88 = .ok (.iconst 5, 1) := by decide +kernel
theorem dX6_add_89 : decode cX6_add 89 = .ok (.iadd, 1) := by decide +kernel
theorem dX6_add_90 : decode cX6_add 90 = .ok (.putfield 13, 3) := by decide +kernel
theorem dX6_add_93 : decode cX6_add 93 = .ok (.iconst 1, 1) := by decide +kernel
theorem dX6_add_94 : decode cX6_add 94 = .ok (.ireturn, 1) := by decide +kernel
theorem dX6_length_0 : decode cX6_length 0 = .ok (.aload_n 0, 1) := by decide +kernel
theorem dX6_length_1 : decode cX6_length 1 = .ok (.getfield 13, 3) := by decide +kernel
theorem dX6_length_4 : decode cX6_length 4 = .ok (.iconst 4, 1) := by decide +kernel
theorem dX6_length_5 : decode cX6_length 5 = .ok (.imul, 1) := by decide +kernel
theorem dX6_length_6 : decode cX6_length 6 = .ok (.ireturn, 1) := by decide +kernel
theorem dX6_exchange_0 : decode cX6_exchange 0 = .ok (.aload_n 0, 1) := by decide +kernel
theorem dX6_exchange_1 : decode cX6_exchange 1 = .ok (.getfield 9, 3) := by decide +kernel
theorem dX6_exchange_4 : decode cX6_exchange 4 = .ok (.astore_n 2, 1) := by decide +kernel
theorem dX6_exchange_5 : decode cX6_exchange 5 = .ok (.aload_n 0, 1) := by decide +kernel
theorem dX6_exchange_6 : decode cX6_exchange 6 = .ok (.aload_n 1, 1) := by decide +kernel
theorem dX6_exchange_7 : decode cX6_exchange 7 = .ok (.putfield 9, 3) := by decide +kernel
theorem dX6_exchange_10 : decode cX6_exchange 10 = .ok (.aload_n 0, 1) := by decide +kernel
theorem dX6_exchange_11 : decode cX6_exchange 11 = .ok (.iconst 0, 1) := by decide +kernel
theorem dX6_exchange_12 : decode cX6_exchange 12 = .ok (.putfield 13, 3) := by decide +kernel
theorem dX6_exchange_15 : decode cX6_exchange 15 = .ok (.aload_n 2, 1) := by decide +kernel
theorem dX6_exchange_16 : decode cX6_exchange 16 = .ok (.areturn, 1) := by decide +kernel
theorem dX6_clear_0 : decode cX6_clear 0 = .ok (.aload_n 0, 1) := by decide +kernel
theorem dX6_clear_1 : decode cX6_clear 1 = .ok (.iconst 0, 1) := by decide +kernel
theorem dX6_clear_2 : decode cX6_clear 2 = .ok (.putfield 13, 3) := by decide +kernel
theorem dX6_clear_5 : decode cX6_clear 5 = .ok (.return_, 1) := by decide +kernel
set_option maxRecDepth 20000 in
theorem ggX7_init_X6_init : GoodIn wsX7_init wsX6_init := goodIn_r _ [21, 22, 2, 3, 23, 24, 68, 69] (by decide +kernel) (by decide +kernel)
set_option maxRecDepth 20000 in
theorem gX7_init_X6_init_n9 : GoodIn wsX7_init (wsX6_init) := ggX7_init_X6_init
set_option maxRecDepth 20000 in
theorem ggX7_init_X5_init : GoodIn wsX7_init wsX5_init := goodIn_r _ [26, 27, 2, 3, 23, 28, 74, 75, 76, 77] (by decide +kernel) (by decide +kernel)
set_option maxRecDepth 20000 in
theorem gX7_init_X5_init_n18 : GoodIn wsX7_init (wsX5_init) := ggX7_init_X5_init
set_option maxRecDepth 20000 in
theorem ggX7_init_X0_init : GoodIn wsX7_init wsX0_init := goodIn_r _ [30, 31, 2, 3, 23, 32, 33, 34, 35, 36, 37, 78, 79, 80, 81, 82, 83, 84] (by decide +kernel) (by decide +kernel)
set_option maxRecDepth 20000 in
theorem gX7_init_X0_init_n25 : GoodIn wsX7_init (wsX0_init) := ggX7_init_X0_init
set_option maxRecDepth 20000 in
theorem ggX7_init_X3_init : GoodIn wsX7_init wsX3_init := goodIn_r _ [39, 40, 2, 3, 41, 23, 42, 43, 44, 45, 46, 47, 48, 49, 50, 51, 52, 53, 54, 55, 56, 57, 58, 59, 60, 61, 62, 63, 64, 65, 66, 67, 85, 86, 87, 88, 89, 90, 91, 92, 93, 94, 95, 96, 97, 98, 99, 100, 101] (by decide +kernel) (by decide +kernel)
set_option maxRecDepth 20000 in
theorem gX7_init_X3_init_n32 : GoodIn wsX7_init (wsX3_init) := ggX7_init_X3_init
theorem dX7_init_0 : decode cX7_init 0 = .ok (.aload_n 0, 1) := by decide +kernel
theorem dX7_init_1 : decode cX7_init 1 = .ok (.invokespecial 1, 3) := by decide +kernel
theorem dX7_init_4 : decode cX7_init 4 = .ok (.aload_n 0, 1) := by decide +kernel
theorem dX7_init_5 : decode cX7_init 5 = .ok (.new 7, 3) := by decide +kernel
theorem dX7_init_8 : decode cX7_init 8 = .ok (.dup, 1) := by decide +kernel
theorem dX7_init_9 : decode cX7_init 9 = .ok (.invokespecial 9, 3) := by decide +kernel
theorem dX7_init_12 : decode cX7_init 12 = .ok (.putfield 10, 3) := by decide +kernel
theorem dX7_init_15 : decode cX7_init 15 = .ok (.aload_n 0, 1) := by decide +kernel
theorem dX7_init_16 : decode cX7_init 16 = .ok (.new 16, 3) := by decide +kernel
theorem dX7_init_19 : decode cX7_init 19 = .ok (.dup, 1) := by decide +kernel
theorem dX7_init_20 : decode cX7_init 20 = .ok (.invokespecial 18, 3) := by decide +kernel
theorem dX7_init_23 : decode cX7_init 23 = .ok (.putfield 19, 3) := by decide +kernel
theorem dX7_init_26 : decode cX7_init 26 = .ok (.aload_n 0, 1) := by decide +kernel
theorem dX7_init_27 : decode cX7_init 27 = .ok (.new 23, 3) := by decide +kernel
theorem dX7_init_30 : decode cX7_init 30 = .ok (.dup, 1) := by decide +kernel
theorem dX7_init_31 : decode cX7_init 31 = .ok (.invokespecial 25, 3) := by decide +kernel
theorem dX7_init_34 : decode cX7_init 34 = .ok (.putfield 26, 3) := by decide +kernel
theorem dX7_init_37 : decode cX7_init 37 = .ok (.aload_n 0, 1) := by decide +kernel
theorem dX7_init_38 : decode cX7_init 38 = .ok (.new 30, 3) := by decide +kernel
theorem dX7_init_41 : decode cX7_init 41 = .ok (.dup, 1) := by decide +kernel
theorem dX7_init_42 : decode cX7_init 42 = .ok (.invokespecial 32, 3) := by decide +kernel
theorem dX7_init_45 : decode cX7_init 45 = .ok (.putfield 33, 3) := by decide +kernel
theorem dX7_init_48 : decode cX7_init 48 = .ok (.return_, 1) := by decide +kernel
set_option maxRecDepth 20000 in
theorem ggX7_feed_X6_add : GoodIn wsX7_feed wsX6_add := goodIn_r _ [6, 7, 8, 17, 18] (by decide +kernel) (by decide +kernel)
set_option maxRecDepth 20000 in
theorem gX7_feed_X6_add : GoodIn wsX7_feed (wsV RX7 37 RX6 yX6_add wsX6_add) := goodIn_app (goodIn_of _ (by decide +kernel)) ggX7_feed_X6_add
set_option maxRecDepth 20000 in
theorem ggX7_feed_X6_length : GoodIn wsX7_feed wsX6_length := goodIn_r _ [12, 7, 17, 18] (by decide +kernel) (by decide +kernel)
set_option maxRecDepth 20000 in
theorem gX7_feed_X6_length : GoodIn wsX7_feed (wsV RX7 41 RX6 yX6_length wsX6_length) := goodIn_app (goodIn_of _ (by decide +kernel)) ggX7_feed_X6_length
theorem dX7_feed_0 : decode cX7_feed 0 = .ok (.aload_n 0, 1) := by decide +kernel
theorem dX7_feed_1 : decode cX7_feed 1 = .ok (.getfield 10, 3) := by decide +kernel
theorem dX7_feed_4 : decode cX7_feed 4 = .ok (.iload_n 1, 1) := by decide +kernel
theorem dX7_feed_5 : decode cX7_feed 5 = .ok (.iload_n 2, 1) := by decide +kernel
theorem dX7_feed_6 : decode cX7_feed 6 = .ok (.iload_n 3, 1) := by decide +kernel
theorem dX7_feed_7 : decode cX7_feed 7 = .ok (.iload 4, 2) := by decide +kernel
theorem dX7_feed_9 : decode cX7_feed 9 = .ok (.iload 5, 2) := by decide +kernel
theorem dX7_feed_11 : decode cX7_feed 11 = .ok (.invokevirtual 37, 3) := by decide +kernel
theorem dX7_feed_14 : decode cX7_feed 14 = .ok (.ifCond .eq 13, 3) := by decide +kernel
theorem dX7_feed_17 : decode cX7_feed 17 = .ok (.aload_n 0, 1) := by decide +kernel
theorem dX7_feed_18 : decode cX7_feed 18 = .ok (.getfield 10, 3) := by decide +kernel
theorem dX7_feed_21 : decode cX7_feed 21 = .ok (.invokevirtual 41, 3) := by decide +kernel
theorem dX7_feed_24 : decode cX7_feed 24 = .ok (.goto 5, 3) := by decide +kernel
theorem dX7_feed_27 : decode cX7_feed 27 = .ok (.bipush (-2), 2) := by decide +kernel
theorem dX7_feed_29 : decode cX7_feed 29 = .ok (.ireturn, 1) := by decide +kernel
set_option maxRecDepth 20000 in
theorem ggX7_end_X5_take : GoodIn wsX7_end wsX5_take := goodIn_r _ [9, 10, 11, 12, 13, 14, 15, 16, 17, 18, 19, 20, 21, 22, 23, 24, 25, 26, 27, 28, 325, 326, 327, 328, 329, 330] (by decide +kernel) (by decide +kernel)
set_option maxRecDepth 20000 in
theorem gX7_end_X5_take : GoodIn wsX7_end (wsV RX7 45 RX5 yX5_take wsX5_take) := goodIn_app (goodIn_of _ (by decide +kernel)) ggX7_end_X5_take
set_option maxRecDepth 20000 in
theorem ggX7_end_X0_read : GoodIn wsX7_end wsX0_read := goodIn_r _ [33, 34, 35, 36, 37, 38, 39, 40, 41, 42, 8, 43, 12, 13, 44, 45, 46, 47, 11, 10, 48, 49, 50, 51, 52, 53, 54, 32, 55, 56, 57, 58, 59, 60, 61, 62, 63, 64, 65, 66, 67, 68, 69, 70, 71, 72, 73, 74, 75, 76, 77, 78, 79, 80, 81, 82, 83, 84, 85, 86, 87, 88, 89, 90, 91, 92, 93, 94, 95, 96, 97, 98, 99, 100, 101, 102, 103, 104, 105, 331, 332, 333, 334, 335, 336, 337, 325, 326, 327, 328] (by decide +kernel) (by decide +kernel)
set_option maxRecDepth 20000 in
theorem gX7_end_X0_read : GoodIn wsX7_end (wsV RX7 49 RX0 yX0_read wsX0_read) := goodIn_app (goodIn_of _ (by decide +kernel)) ggX7_end_X0_read
set_option maxRecDepth 20000 in
theorem ggX7_end_X3_read : GoodIn wsX7_end wsX3_read := goodIn_r _ [110, 111, 35, 36, 37, 112, 113, 114, 115, 116, 117, 118, 109, 119, 120, 121, 122, 123, 124, 125, 126, 127, 128, 129, 130, 131, 132, 41, 42, 8, 43, 12, 13, 44, 45, 46, 47, 11, 10, 133, 49, 50, 51, 134, 135, 136, 32, 137, 38, 138, 139, 140, 141, 142, 143, 144, 145, 146, 58, 59, 60, 61, 62, 63, 64, 65, 147, 148, 149, 150, 151, 152, 95, 96, 97, 153, 154, 155, 156, 157, 158, 159, 160, 161, 162, 163, 164, 165, 166, 167, 168, 169, 170, 103, 104, 105, 171, 172, 173, 174, 175, 176, 177, 178, 179, 180, 181, 182, 183, 184, 185, 186, 187, 188, 189, 190, 191, 192, 193, 194, 195, 196, 197, 198, 199, 200, 201, 202, 203, 204, 205, 206, 207, 208, 209, 210, 211, 212, 213, 75, 76, 77, 70, 78, 79, 80, 81, 214, 215, 216, 217, 218, 87, 88, 89, 72, 219, 220, 221, 222, 223, 224, 225, 226, 227, 228, 229, 230, 231, 232, 233, 234, 235, 236, 237, 238, 239, 240, 338, 339, 340, 341, 342, 343, 344, 345, 346, 347, 348, 349, 350, 351, 352, 325, 326, 327, 328, 331, 332, 333, 334, 335, 336, 337, 353, 354] (by decide +kernel) (by decide +kernel)
set_option maxRecDepth 20000 in
theorem gX7_end_X3_read : GoodIn wsX7_end (wsV RX7 53 RX3 yX3_read wsX3_read) := goodIn_app (goodIn_of _ (by decide +kernel)) ggX7_end_X3_read
set_option maxRecDepth 20000 in
theorem ggX7_end_X5_close : GoodIn wsX7_end wsX5_close := goodIn_r _ [244, 12, 11, 13, 325, 326, 327, 328] (by decide +kernel) (by decide +kernel)
set_option maxRecDepth 20000 in
theorem gX7_end_X5_close : GoodIn wsX7_end (wsV RX7 56 RX5 yX5_close wsX5_close) := goodIn_app (goodIn_of _ (by decide +kernel)) ggX7_end_X5_close
set_option maxRecDepth 20000 in
theorem ggX7_end_X5_stopped : GoodIn wsX7_end wsX5_stopped := goodIn_r _ [51, 13, 325, 326, 327, 328] (by decide +kernel) (by decide +kernel)
set_option maxRecDepth 20000 in
theorem gX7_end_X5_stopped : GoodIn wsX7_end (wsV RX7 59 RX5 yX5_stopped wsX5_stopped) := goodIn_app (goodIn_of _ (by decide +kernel)) ggX7_end_X5_stopped
set_option maxRecDepth 20000 in
theorem ggX7_end_X5_place : GoodIn wsX7_end wsX5_place := goodIn_r _ [105, 12, 325, 326, 327, 328] (by decide +kernel) (by decide +kernel)
set_option maxRecDepth 20000 in
theorem gX7_end_X5_place : GoodIn wsX7_end (wsV RX7 63 RX5 yX5_place wsX5_place) := goodIn_app (goodIn_of _ (by decide +kernel)) ggX7_end_X5_place
set_option maxRecDepth 20000 in
theorem ggX7_end_X3_misfit : GoodIn wsX7_end wsX3_misfit := goodIn_r _ [250, 112, 113, 115, 134, 135, 136, 32, 137, 38, 251, 252, 253, 109, 254, 255, 256, 257, 258, 73, 78, 79, 80, 81, 259, 260, 261, 262, 142, 263, 87, 88, 89, 72, 264, 265, 266, 267, 56, 235, 236, 237, 238, 268, 269, 270, 271, 143, 144, 272, 273, 274, 275, 151, 276, 277, 278, 124, 279, 163, 280, 281, 282, 283, 165, 284, 45, 46, 8, 47, 11, 10, 201, 182, 179, 183, 184, 206, 186, 187, 188, 285, 286, 287, 288, 44, 289, 290, 291, 292, 127, 293, 294, 295, 296, 164, 212, 190, 191, 192, 177, 178, 180, 181, 185, 189, 297, 298, 299, 222, 300, 225, 301, 302, 303, 304, 226, 305, 306, 307, 338, 339, 340, 341, 342, 343, 344, 345, 346, 347, 331, 332, 333, 334, 335, 336, 337, 348, 349, 350, 351, 352, 325, 326, 327, 328, 353, 354] (by decide +kernel) (by decide +kernel)
set_option maxRecDepth 20000 in
theorem gX7_end_X3_misfit : GoodIn wsX7_end (wsV RX7 66 RX3 yX3_misfit wsX3_misfit) := goodIn_app (goodIn_of _ (by decide +kernel)) ggX7_end_X3_misfit
set_option maxRecDepth 20000 in
theorem ggX7_end_X3_instructions : GoodIn wsX7_end wsX3_instructions := goodIn_r _ [311, 113, 312, 313, 314, 124, 315, 126, 338, 339, 340, 341, 342, 343, 344, 345, 346, 347, 348, 349, 350, 351, 352] (by decide +kernel) (by decide +kernel)
set_option maxRecDepth 20000 in
theorem gX7_end_X3_instructions : GoodIn wsX7_end (wsV RX7 70 RX3 yX3_instructions wsX3_instructions) := goodIn_app (goodIn_of _ (by decide +kernel)) ggX7_end_X3_instructions
set_option maxRecDepth 20000 in
theorem ggX7_end_X0_clear : GoodIn wsX7_end wsX0_clear := goodIn_r _ [319, 38, 331, 332, 333, 334, 335, 336, 337] (by decide +kernel) (by decide +kernel)
set_option maxRecDepth 20000 in
theorem gX7_end_X0_clear : GoodIn wsX7_end (wsV RX7 73 RX0 yX0_clear wsX0_clear) := goodIn_app (goodIn_of _ (by decide +kernel)) ggX7_end_X0_clear
set_option maxRecDepth 20000 in
theorem ggX7_end_X3_clear : GoodIn wsX7_end wsX3_clear := goodIn_r _ [119, 112, 120, 113, 121, 122, 123, 124, 125, 126, 127, 128, 129, 130, 131, 338, 339, 340, 341, 342, 343, 344, 345, 346, 347, 348, 349, 350, 351, 352] (by decide +kernel) (by decide +kernel)
set_option maxRecDepth 20000 in
theorem gX7_end_X3_clear : GoodIn wsX7_end (wsV RX7 76 RX3 yX3_clear wsX3_clear) := goodIn_app (goodIn_of _ (by decide +kernel)) ggX7_end_X3_clear
theorem dX7_end_0 : decode cX7_end 0 = .ok (.aload_n 0, 1) := by decide +kernel
theorem dX7_end_1 : decode cX7_end 1 = .ok (.getfield 19, 3) := by decide +kernel
theorem dX7_end_4 : decode cX7_end 4 = .ok (.aload_n 0, 1) := by decide +kernel
theorem dX7_end_5 : decode cX7_end 5 = .ok (.getfield 10, 3) := by decide +kernel
theorem dX7_end_8 : decode cX7_end 8 = .ok (.iload_n 1, 1) := by decide +kernel
theorem dX7_end_9 : decode cX7_end 9 = .ok (.invokevirtual 45, 3) := by decide +kernel
theorem dX7_end_12 : decode cX7_end 12 = .ok (.ifCond .ne 5, 3) := by decide +kernel
theorem dX7_end_15 : decode cX7_end 15 = .ok (.iconst (-1), 1) := by decide +kernel
theorem dX7_end_16 : decode cX7_end 16 = .ok (.ireturn, 1) := by decide +kernel
theorem dX7_end_17 : decode cX7_end 17 = .ok (.aload_n 0, 1) := by decide +kernel
theorem dX7_end_18 : decode cX7_end 18 = .ok (.getfield 26, 3) := by decide +kernel
theorem dX7_end_21 : decode cX7_end 21 = .ok (.aload_n 0, 1) := by decide +kernel
theorem dX7_end_22 : decode cX7_end 22 = .ok (.getfield 19, 3) := by decide +kernel
theorem dX7_end_25 : decode cX7_end 25 = .ok (.invokevirtual 49, 3) := by decide +kernel
theorem dX7_end_28 : decode cX7_end 28 = .ok (.aload_n 0, 1) := by decide +kernel
theorem dX7_end_29 : decode cX7_end 29 = .ok (.getfield 33, 3) := by decide +kernel
theorem dX7_end_32 : decode cX7_end 32 = .ok (.aload_n 0, 1) := by decide +kernel
theorem dX7_end_33 : decode cX7_end 33 = .ok (.getfield 19, 3) := by decide +kernel
theorem dX7_end_36 : decode cX7_end 36 = .ok (.aload_n 0, 1) := by decide +kernel
theorem dX7_end_37 : decode cX7_end 37 = .ok (.getfield 26, 3) := by decide +kernel
theorem dX7_end_40 : decode cX7_end 40 = .ok (.invokevirtual 53, 3) := by decide +kernel
theorem dX7_end_43 : decode cX7_end 43 = .ok (.aload_n 0, 1) := by decide +kernel
theorem dX7_end_44 : decode cX7_end 44 = .ok (.getfield 19, 3) := by decide +kernel
theorem dX7_end_47 : decode cX7_end 47 = .ok (.invokevirtual 56, 3) := by decide +kernel
theorem dX7_end_50 : decode cX7_end 50 = .ok (.aload_n 0, 1) := by decide +kernel
theorem dX7_end_51 : decode cX7_end 51 = .ok (.getfield 19, 3) := by decide +kernel
theorem dX7_end_54 : decode cX7_end 54 = .ok (.invokevirtual 59, 3) := by decide +kernel
theorem dX7_end_57 : decode cX7_end 57 = .ok (.ifCond .eq 13, 3) := by decide +kernel
theorem dX7_end_60 : decode cX7_end 60 = .ok (.aload_n 0, 1) := by decide +kernel
theorem dX7_end_61 : decode cX7_end 61 = .ok (.getfield 19, 3) := by decide +kernel
theorem dX7_end_64 : decode cX7_end 64 = .ok (.invokevirtual 63, 3) := by decide +kernel
theorem dX7_end_67 : decode cX7_end 67 = .ok (.goto 18, 3) := by decide +kernel
theorem dX7_end_70 : decode cX7_end 70 = .ok (.aload_n 0, 1) := by decide +kernel
theorem dX7_end_71 : decode cX7_end 71 = .ok (.getfield 33, 3) := by decide +kernel
theorem dX7_end_74 : decode cX7_end 74 = .ok (.aload_n 0, 1) := by decide +kernel
theorem dX7_end_75 : decode cX7_end 75 = .ok (.getfield 19, 3) := by decide +kernel
theorem dX7_end_78 : decode cX7_end 78 = .ok (.aload_n 0, 1) := by decide +kernel
theorem dX7_end_79 : decode cX7_end 79 = .ok (.getfield 26, 3) := by decide +kernel
theorem dX7_end_82 : decode cX7_end 82 = .ok (.invokevirtual 66, 3) := by decide +kernel
theorem dX7_end_85 : decode cX7_end 85 = .ok (.istore_n 2, 1) := by decide +kernel
theorem dX7_end_86 : decode cX7_end 86 = .ok (.iload_n 2, 1) := by decide +kernel
theorem dX7_end_87 : decode cX7_end 87 = .ok (.iconst (-1), 1) := by decide +kernel
theorem dX7_end_88 : decode cX7_end 88 = .ok (.if_icmp .ne 11, 3) := by decide +kernel
theorem dX7_end_91 : decode cX7_end 91 = .ok (.aload_n 0, 1) := by decide +kernel
theorem dX7_end_92 : decode cX7_end 92 = .ok (.getfield 33, 3) := by decide +kernel
theorem dX7_end_95 : decode cX7_end 95 = .ok (.invokevirtual 70, 3) := by decide +kernel
theorem dX7_end_98 : decode cX7_end 98 = .ok (.ireturn, 1) := by decide +kernel
theorem dX7_end_99 : decode cX7_end 99 = .ok (.aload_n 0, 1) := by decide +kernel
theorem dX7_end_100 : decode cX7_end 100 = .ok (.getfield 26, 3) := by decide +kernel
theorem dX7_end_103 : decode cX7_end 103 = .ok (.invokevirtual 73, 3) := by decide +kernel
theorem dX7_end_106 : decode cX7_end 106 = .ok (.aload_n 0, 1) := by decide +kernel
theorem dX7_end_107 : decode cX7_end 107 = .ok (.getfield 33, 3) := by decide +kernel
theorem dX7_end_110 : decode cX7_end 110 = .ok (.invokevirtual 76, 3) := by decide +kernel
theorem dX7_end_113 : decode cX7_end 113 = .ok (.bipush (-3), 2) := by decide +kernel
theorem dX7_end_115 : decode cX7_end 115 = .ok (.iload_n 2, 1) := by decide +kernel
theorem dX7_end_116 : decode cX7_end 116 = .ok (.isub, 1) := by decide +kernel
theorem dX7_end_117 : decode cX7_end 117 = .ok (.ireturn, 1) := by decide +kernel
set_option maxRecDepth 20000 in
theorem ggX7_count_X0_size : GoodIn wsX7_count wsX0_size := goodIn_r _ [7, 8, 35, 36, 37, 38, 39, 40, 41] (by decide +kernel) (by decide +kernel)
set_option maxRecDepth 20000 in
theorem gX7_count_X0_size : GoodIn wsX7_count (wsV RX7 77 RX0 yX0_size wsX0_size) := goodIn_app (goodIn_of _ (by decide +kernel)) ggX7_count_X0_size
set_option maxRecDepth 20000 in
theorem ggX7_count_X3_size : GoodIn wsX7_count wsX3_size := goodIn_r _ [13, 14, 42, 43, 44, 45, 46, 47, 48, 49, 50, 51] (by decide +kernel) (by decide +kernel)
set_option maxRecDepth 20000 in
theorem gX7_count_X3_size : GoodIn wsX7_count (wsV RX7 80 RX3 yX3_size wsX3_size) := goodIn_app (goodIn_of _ (by decide +kernel)) ggX7_count_X3_size
set_option maxRecDepth 20000 in
theorem ggX7_count_X3_instructions : GoodIn wsX7_count wsX3_instructions := goodIn_r _ [18, 19, 20, 21, 22, 23, 24, 25, 42, 43, 44, 45, 46, 47, 48, 49, 50, 51, 52, 53, 54, 55, 56] (by decide +kernel) (by decide +kernel)
set_option maxRecDepth 20000 in
theorem gX7_count_X3_instructions : GoodIn wsX7_count (wsV RX7 70 RX3 yX3_instructions wsX3_instructions) := goodIn_app (goodIn_of _ (by decide +kernel)) ggX7_count_X3_instructions
set_option maxRecDepth 20000 in
theorem ggX7_count_X3_first : GoodIn wsX7_count wsX3_first := goodIn_r _ [29, 30, 42, 43, 44, 45, 46, 47, 48, 49, 50, 51] (by decide +kernel) (by decide +kernel)
set_option maxRecDepth 20000 in
theorem gX7_count_X3_first : GoodIn wsX7_count (wsV RX7 81 RX3 yX3_first wsX3_first) := goodIn_app (goodIn_of _ (by decide +kernel)) ggX7_count_X3_first
theorem dX7_count_0 : decode cX7_count 0 = .ok (.iload_n 1, 1) := by decide +kernel
theorem dX7_count_1 : decode cX7_count 1 = .ok (.tableswitch 63 0 3 #[31, 39, 47, 55], 31) := by decide +kernel
theorem dX7_count_32 : decode cX7_count 32 = .ok (.aload_n 0, 1) := by decide +kernel
theorem dX7_count_33 : decode cX7_count 33 = .ok (.getfield 26, 3) := by decide +kernel
theorem dX7_count_36 : decode cX7_count 36 = .ok (.invokevirtual 77, 3) := by decide +kernel
theorem dX7_count_39 : decode cX7_count 39 = .ok (.ireturn, 1) := by decide +kernel
theorem dX7_count_40 : decode cX7_count 40 = .ok (.aload_n 0, 1) := by decide +kernel
theorem dX7_count_41 : decode cX7_count 41 = .ok (.getfield 33, 3) := by decide +kernel
theorem dX7_count_44 : decode cX7_count 44 = .ok (.invokevirtual 80, 3) := by decide +kernel
theorem dX7_count_47 : decode cX7_count 47 = .ok (.ireturn, 1) := by decide +kernel
theorem dX7_count_48 : decode cX7_count 48 = .ok (.aload_n 0, 1) := by decide +kernel
theorem dX7_count_49 : decode cX7_count 49 = .ok (.getfield 33, 3) := by decide +kernel
theorem dX7_count_52 : decode cX7_count 52 = .ok (.invokevirtual 70, 3) := by decide +kernel
theorem dX7_count_55 : decode cX7_count 55 = .ok (.ireturn, 1) := by decide +kernel
theorem dX7_count_56 : decode cX7_count 56 = .ok (.aload_n 0, 1) := by decide +kernel
theorem dX7_count_57 : decode cX7_count 57 = .ok (.getfield 33, 3) := by decide +kernel
theorem dX7_count_60 : decode cX7_count 60 = .ok (.invokevirtual 81, 3) := by decide +kernel
theorem dX7_count_63 : decode cX7_count 63 = .ok (.ireturn, 1) := by decide +kernel
theorem dX7_count_64 : decode cX7_count 64 = .ok (.iconst (-1), 1) := by decide +kernel
theorem dX7_count_65 : decode cX7_count 65 = .ok (.ireturn, 1) := by decide +kernel
set_option maxRecDepth 20000 in
theorem ggX7_classOf_X0_upper : GoodIn wsX7_classOf wsX0_upper := goodIn_r _ [6, 7, 8, 9, 10, 5, 11, 12, 33, 34, 35, 36, 37, 38, 39] (by decide +kernel) (by decide +kernel)
set_option maxRecDepth 20000 in
theorem gX7_classOf_X0_upper : GoodIn wsX7_classOf (wsV RX7 84 RX0 yX0_upper wsX0_upper) := goodIn_app (goodIn_of _ (by decide +kernel)) ggX7_classOf_X0_upper
set_option maxRecDepth 20000 in
theorem ggX7_classOf_X0_fields : GoodIn wsX7_classOf wsX0_fields := goodIn_r _ [16, 17, 8, 9, 10, 5, 11, 12, 33, 34, 35, 36, 37, 38, 39] (by decide +kernel) (by decide +kernel)
set_option maxRecDepth 20000 in
theorem gX7_classOf_X0_fields : GoodIn wsX7_classOf (wsV RX7 88 RX0 yX0_fields wsX0_fields) := goodIn_app (goodIn_of _ (by decide +kernel)) ggX7_classOf_X0_fields
set_option maxRecDepth 20000 in
theorem ggX7_classOf_X0_fieldType : GoodIn wsX7_classOf wsX0_fieldType := goodIn_r _ [21, 22, 23, 14, 15, 5, 16, 17, 8, 9, 10, 11, 12, 33, 34, 35, 36, 37, 38, 39] (by decide +kernel) (by decide +kernel)
set_option maxRecDepth 20000 in
theorem gX7_classOf_X0_fieldType : GoodIn wsX7_classOf (wsV RX7 91 RX0 yX0_fieldType wsX0_fieldType) := goodIn_app (goodIn_of _ (by decide +kernel)) ggX7_classOf_X0_fieldType
set_option maxRecDepth 20000 in
theorem ggX7_classOf_X0_slotMethod : GoodIn wsX7_classOf wsX0_slotMethod := goodIn_r _ [27, 28, 8, 9, 10, 5, 11, 12, 33, 34, 35, 36, 37, 38, 39] (by decide +kernel) (by decide +kernel)
set_option maxRecDepth 20000 in
theorem gX7_classOf_X0_slotMethod : GoodIn wsX7_classOf (wsV RX7 95 RX0 yX0_slotMethod wsX0_slotMethod) := goodIn_app (goodIn_of _ (by decide +kernel)) ggX7_classOf_X0_slotMethod
theorem dX7_classOf_0 : decode cX7_classOf 0 = .ok (.iload_n 2, 1) := by decide +kernel
theorem dX7_classOf_1 : decode cX7_classOf 1 = .ok (.tableswitch 69 0 3 #[31, 40, 49, 59], 31) := by decide +kernel
theorem dX7_classOf_32 : decode cX7_classOf 32 = .ok (.aload_n 0, 1) := by decide +kernel
theorem dX7_classOf_33 : decode cX7_classOf 33 = .ok (.getfield 26, 3) := by decide +kernel
theorem dX7_classOf_36 : decode cX7_classOf 36 = .ok (.iload_n 1, 1) := by decide +kernel
theorem dX7_classOf_37 : decode cX7_classOf 37 = .ok (.invokevirtual 84, 3) := by decide +kernel
theorem dX7_classOf_40 : decode cX7_classOf 40 = .ok (.ireturn, 1) := by decide +kernel
theorem dX7_classOf_41 : decode cX7_classOf 41 = .ok (.aload_n 0, 1) := by decide +kernel
theorem dX7_classOf_42 : decode cX7_classOf 42 = .ok (.getfield 26, 3) := by decide +kernel
theorem dX7_classOf_45 : decode cX7_classOf 45 = .ok (.iload_n 1, 1) := by decide +kernel
theorem dX7_classOf_46 : decode cX7_classOf 46 = .ok (.invokevirtual 88, 3) := by decide +kernel
theorem dX7_classOf_49 : decode cX7_classOf 49 = .ok (.ireturn, 1) := by decide +kernel
theorem dX7_classOf_50 : decode cX7_classOf 50 = .ok (.aload_n 0, 1) := by decide +kernel
theorem dX7_classOf_51 : decode cX7_classOf 51 = .ok (.getfield 26, 3) := by decide +kernel
theorem dX7_classOf_54 : decode cX7_classOf 54 = .ok (.iload_n 1, 1) := by decide +kernel
theorem dX7_classOf_55 : decode cX7_classOf 55 = .ok (.iload_n 3, 1) := by decide +kernel
theorem dX7_classOf_56 : decode cX7_classOf 56 = .ok (.invokevirtual 91, 3) := by decide +kernel
theorem dX7_classOf_59 : decode cX7_classOf 59 = .ok (.ireturn, 1) := by decide +kernel
theorem dX7_classOf_60 : decode cX7_classOf 60 = .ok (.aload_n 0, 1) := by decide +kernel
theorem dX7_classOf_61 : decode cX7_classOf 61 = .ok (.getfield 26, 3) := by decide +kernel
theorem dX7_classOf_64 : decode cX7_classOf 64 = .ok (.iload_n 1, 1) := by decide +kernel
theorem dX7_classOf_65 : decode cX7_classOf 65 = .ok (.iload_n 3, 1) := by decide +kernel
theorem dX7_classOf_66 : decode cX7_classOf 66 = .ok (.invokevirtual 95, 3) := by decide +kernel
theorem dX7_classOf_69 : decode cX7_classOf 69 = .ok (.ireturn, 1) := by decide +kernel
theorem dX7_classOf_70 : decode cX7_classOf 70 = .ok (.iconst (-1), 1) := by decide +kernel
theorem dX7_classOf_71 : decode cX7_classOf 71 = .ok (.ireturn, 1) := by decide +kernel
set_option maxRecDepth 20000 in
theorem ggX7_isA_X0_reaches : GoodIn wsX7_isA wsX0_reaches := goodIn_r _ [6, 7, 8, 9, 10, 5, 11, 12, 17, 18, 19, 20, 21, 22, 23] (by decide +kernel) (by decide +kernel)
set_option maxRecDepth 20000 in
theorem gX7_isA_X0_reaches : GoodIn wsX7_isA (wsV RX7 98 RX0 yX0_reaches wsX0_reaches) := goodIn_app (goodIn_of _ (by decide +kernel)) ggX7_isA_X0_reaches
theorem dX7_isA_0 : decode cX7_isA 0 = .ok (.aload_n 0, 1) := by decide +kernel
theorem dX7_isA_1 : decode cX7_isA 1 = .ok (.getfield 26, 3) := by decide +kernel
theorem dX7_isA_4 : decode cX7_isA 4 = .ok (.iload_n 1, 1) := by decide +kernel
theorem dX7_isA_5 : decode cX7_isA 5 = .ok (.iload_n 2, 1) := by decide +kernel
theorem dX7_isA_6 : decode cX7_isA 6 = .ok (.invokevirtual 98, 3) := by decide +kernel
theorem dX7_isA_9 : decode cX7_isA 9 = .ok (.ireturn, 1) := by decide +kernel
set_option maxRecDepth 20000 in
theorem ggX7_method_X3_fact : GoodIn wsX7_method wsX3_fact := goodIn_r _ [7, 8, 9, 10, 11, 12, 13, 14, 15, 16, 17, 6, 18, 19, 20, 21, 22, 23, 24, 25, 26, 27, 28, 29, 30, 31, 32, 33, 34, 35, 36, 37, 38, 39, 40, 41, 42, 43, 44, 45, 46, 47, 48, 49, 50, 51, 52, 53, 54, 55, 56, 57, 58, 59, 60, 61, 62, 63, 64, 65, 66, 67, 68, 69, 70, 75, 76, 77, 78, 79, 80, 81, 82, 83, 84, 85, 86, 87, 88, 89, 90, 91, 92, 93, 94, 95] (by decide +kernel) (by decide +kernel)
set_option maxRecDepth 20000 in
theorem gX7_method_X3_fact : GoodIn wsX7_method (wsV RX7 102 RX3 yX3_fact wsX3_fact) := goodIn_app (goodIn_of _ (by decide +kernel)) ggX7_method_X3_fact
theorem dX7_method_0 : decode cX7_method 0 = .ok (.aload_n 0, 1) := by decide +kernel
theorem dX7_method_1 : decode cX7_method 1 = .ok (.getfield 33, 3) := by decide +kernel
theorem dX7_method_4 : decode cX7_method 4 = .ok (.aload_n 0, 1) := by decide +kernel
theorem dX7_method_5 : decode cX7_method 5 = .ok (.getfield 19, 3) := by decide +kernel
theorem dX7_method_8 : decode cX7_method 8 = .ok (.iload_n 1, 1) := by decide +kernel
theorem dX7_method_9 : decode cX7_method 9 = .ok (.iload_n 2, 1) := by decide +kernel
theorem dX7_method_10 : decode cX7_method 10 = .ok (.iload_n 3, 1) := by decide +kernel
theorem dX7_method_11 : decode cX7_method 11 = .ok (.invokevirtual 102, 3) := by decide +kernel
theorem dX7_method_14 : decode cX7_method 14 = .ok (.ireturn, 1) := by decide +kernel
set_option maxRecDepth 20000 in
theorem ggX7_handler_X3_handlerFact : GoodIn wsX7_handler wsX3_handlerFact := goodIn_r _ [7, 8, 9, 10, 11, 6, 12, 13, 14, 15, 16, 17, 18, 19, 20, 21, 22, 23, 24, 25, 26, 27, 28, 29, 30, 31, 32, 33, 34, 35, 36, 41, 42, 43, 44, 45, 46, 47, 48, 49, 50, 51, 52, 53, 54, 55, 56] (by decide +kernel) (by decide +kernel)
set_option maxRecDepth 20000 in
theorem gX7_handler_X3_handlerFact : GoodIn wsX7_handler (wsV RX7 106 RX3 yX3_handlerFact wsX3_handlerFact) := goodIn_app (goodIn_of _ (by decide +kernel)) ggX7_handler_X3_handlerFact
theorem dX7_handler_0 : decode cX7_handler 0 = .ok (.aload_n 0, 1) := by decide +kernel
theorem dX7_handler_1 : decode cX7_handler 1 = .ok (.getfield 33, 3) := by decide +kernel
theorem dX7_handler_4 : decode cX7_handler 4 = .ok (.aload_n 0, 1) := by decide +kernel
theorem dX7_handler_5 : decode cX7_handler 5 = .ok (.getfield 19, 3) := by decide +kernel
theorem dX7_handler_8 : decode cX7_handler 8 = .ok (.iload_n 1, 1) := by decide +kernel
theorem dX7_handler_9 : decode cX7_handler 9 = .ok (.iload_n 2, 1) := by decide +kernel
theorem dX7_handler_10 : decode cX7_handler 10 = .ok (.iload_n 3, 1) := by decide +kernel
theorem dX7_handler_11 : decode cX7_handler 11 = .ok (.invokevirtual 106, 3) := by decide +kernel
theorem dX7_handler_14 : decode cX7_handler 14 = .ok (.ireturn, 1) := by decide +kernel
set_option maxRecDepth 20000 in
theorem ggX7_instruction_X3_instructionFact : GoodIn wsX7_instruction wsX3_instructionFact := goodIn_r _ [7, 8, 9, 10, 11, 6, 12, 13, 14, 15, 16, 17, 18, 19, 20, 21, 22, 23, 24, 25, 26, 27, 28, 29, 30, 31, 32, 33, 34, 35, 36, 37, 38, 39, 40, 41, 42, 43, 44, 45, 46, 47, 48, 49, 50, 51, 52, 53, 54, 55, 56, 57, 58, 59, 60, 65, 66, 67, 68, 69, 70, 71, 72, 73, 74, 75, 76, 77, 78, 79, 80, 81, 82, 83] (by decide +kernel) (by decide +kernel)
set_option maxRecDepth 20000 in
theorem gX7_instruction_X3_instructionFact : GoodIn wsX7_instruction (wsV RX7 109 RX3 yX3_instructionFact wsX3_instructionFact) := goodIn_app (goodIn_of _ (by decide +kernel)) ggX7_instruction_X3_instructionFact
theorem dX7_instruction_0 : decode cX7_instruction 0 = .ok (.aload_n 0, 1) := by decide +kernel
theorem dX7_instruction_1 : decode cX7_instruction 1 = .ok (.getfield 33, 3) := by decide +kernel
theorem dX7_instruction_4 : decode cX7_instruction 4 = .ok (.aload_n 0, 1) := by decide +kernel
theorem dX7_instruction_5 : decode cX7_instruction 5 = .ok (.getfield 19, 3) := by decide +kernel
theorem dX7_instruction_8 : decode cX7_instruction 8 = .ok (.iload_n 1, 1) := by decide +kernel
theorem dX7_instruction_9 : decode cX7_instruction 9 = .ok (.iload_n 2, 1) := by decide +kernel
theorem dX7_instruction_10 : decode cX7_instruction 10 = .ok (.iload_n 3, 1) := by decide +kernel
theorem dX7_instruction_11 : decode cX7_instruction 11 = .ok (.invokevirtual 109, 3) := by decide +kernel
theorem dX7_instruction_14 : decode cX7_instruction 14 = .ok (.ireturn, 1) := by decide +kernel
set_option maxRecDepth 20000 in
theorem ggX7_thrown_X0_fault : GoodIn wsX7_thrown wsX0_fault := goodIn_r _ [6, 7, 8, 13, 14, 15, 16, 17, 18, 19] (by decide +kernel) (by decide +kernel)
set_option maxRecDepth 20000 in
theorem gX7_thrown_X0_fault : GoodIn wsX7_thrown (wsV RX7 112 RX0 yX0_fault wsX0_fault) := goodIn_app (goodIn_of _ (by decide +kernel)) ggX7_thrown_X0_fault
theorem dX7_thrown_0 : decode cX7_thrown 0 = .ok (.aload_n 0, 1) := by decide +kernel
theorem dX7_thrown_1 : decode cX7_thrown 1 = .ok (.getfield 26, 3) := by decide +kernel
theorem dX7_thrown_4 : decode cX7_thrown 4 = .ok (.iload_n 1, 1) := by decide +kernel
theorem dX7_thrown_5 : decode cX7_thrown 5 = .ok (.invokevirtual 112, 3) := by decide +kernel
theorem dX7_thrown_8 : decode cX7_thrown 8 = .ok (.ireturn, 1) := by decide +kernel
end
section
theorem dX8_init_0 : decode cX8_init 0 = .ok (.aload_n 0, 1) := by decide +kernel
theorem dX8_init_1 : decode cX8_init 1 = .ok (.invokespecial 1, 3) := by decide +kernel
theorem dX8_init_4 : decode cX8_init 4 = .ok (.aload_n 0, 1) := by decide +kernel
theorem dX8_init_5 : decode cX8_init 5 = .ok (.sipush 8000, 3) := by decide +kernel
theorem dX8_init_8 : decode cX8_init 8 = .ok (.newarray .int, 2) := by decide +kernel
theorem dX8_init_10 : decode cX8_init 10 = .ok (.putfield 9, 3) := by decide +kernel
theorem dX8_init_13 : decode cX8_init 13 = .ok (.aload_n 0, 1) := by decide +kernel
theorem dX8_init_14 : decode cX8_init 14 = .ok (.sipush 8000, 3) := by decide +kernel
theorem dX8_init_17 : decode cX8_init 17 = .ok (.newarray .int, 2) := by decide +kernel
theorem dX8_init_19 : decode cX8_init 19 = .ok (.putfield 13, 3) := by decide +kernel
theorem dX8_init_22 : decode cX8_init 22 = .ok (.aload_n 0, 1) := by decide +kernel
theorem dX8_init_23 : decode cX8_init 23 = .ok (.sipush 8000, 3) := by decide +kernel
theorem dX8_init_26 : decode cX8_init 26 = .ok (.newarray .boolean, 2) := by decide +kernel
theorem dX8_init_28 : decode cX8_init 28 = .ok (.putfield 16, 3) := by decide +kernel
theorem dX8_init_31 : decode cX8_init 31 = .ok (.aload_n 0, 1) := by decide +kernel
theorem dX8_init_32 : decode cX8_init 32 = .ok (.bipush 32, 2) := by decide +kernel
theorem dX8_init_34 : decode cX8_init 34 = .ok (.newarray .int, 2) := by decide +kernel
theorem dX8_init_36 : decode cX8_init 36 = .ok (.putfield 20, 3) := by decide +kernel
theorem dX8_init_39 : decode cX8_init 39 = .ok (.aload_n 0, 1) := by decide +kernel
theorem dX8_init_40 : decode cX8_init 40 = .ok (.bipush 32, 2) := by decide +kernel
theorem dX8_init_42 : decode cX8_init 42 = .ok (.newarray .int, 2) := by decide +kernel
theorem dX8_init_44 : decode cX8_init 44 = .ok (.putfield 23, 3) := by decide +kernel
theorem dX8_init_47 : decode cX8_init 47 = .ok (.aload_n 0, 1) := by decide +kernel
theorem dX8_init_48 : decode cX8_init 48 = .ok (.sipush 480, 3) := by decide +kernel
theorem dX8_init_51 : decode cX8_init 51 = .ok (.newarray .int, 2) := by decide +kernel
theorem dX8_init_53 : decode cX8_init 53 = .ok (.putfield 26, 3) := by decide +kernel
theorem dX8_init_56 : decode cX8_init 56 = .ok (.aload_n 0, 1) := by decide +kernel
theorem dX8_init_57 : decode cX8_init 57 = .ok (.sipush 512, 3) := by decide +kernel
theorem dX8_init_60 : decode cX8_init 60 = .ok (.newarray .int, 2) := by decide +kernel
theorem dX8_init_62 : decode cX8_init 62 = .ok (.putfield 29, 3) := by decide +kernel
theorem dX8_init_65 : decode cX8_init 65 = .ok (.aload_n 0, 1) := by decide +kernel
theorem dX8_init_66 : decode cX8_init 66 = .ok (.sipush 512, 3) := by decide +kernel
theorem dX8_init_69 : decode cX8_init 69 = .ok (.newarray .int, 2) := by decide +kernel
theorem dX8_init_71 : decode cX8_init 71 = .ok (.putfield 32, 3) := by decide +kernel
theorem dX8_init_74 : decode cX8_init 74 = .ok (.aload_n 0, 1) := by decide +kernel
theorem dX8_init_75 : decode cX8_init 75 = .ok (.iconst 5, 1) := by decide +kernel
theorem dX8_init_76 : decode cX8_init 76 = .ok (.newarray .int, 2) := by decide +kernel
theorem dX8_init_78 : decode cX8_init 78 = .ok (.putfield 35, 3) := by decide +kernel
theorem dX8_init_81 : decode cX8_init 81 = .ok (.aload_n 0, 1) := by decide +kernel
theorem dX8_init_82 : decode cX8_init 82 = .ok (.bipush 64, 2) := by decide +kernel
theorem dX8_init_84 : decode cX8_init 84 = .ok (.newarray .int, 2) := by decide +kernel
theorem dX8_init_86 : decode cX8_init 86 = .ok (.putfield 38, 3) := by decide +kernel
theorem dX8_init_89 : decode cX8_init 89 = .ok (.aload_n 0, 1) := by decide +kernel
theorem dX8_init_90 : decode cX8_init 90 = .ok (.bipush 64, 2) := by decide +kernel
theorem dX8_init_92 : decode cX8_init 92 = .ok (.newarray .int, 2) := by decide +kernel
theorem dX8_init_94 : decode cX8_init 94 = .ok (.putfield 41, 3) := by decide +kernel
theorem dX8_init_97 : decode cX8_init 97 = .ok (.aload_n 0, 1) := by decide +kernel
theorem dX8_init_98 : decode cX8_init 98 = .ok (.sipush 512, 3) := by decide +kernel
theorem dX8_init_101 : decode cX8_init 101 = .ok (.newarray .int, 2) := by decide +kernel
theorem dX8_init_103 : decode cX8_init 103 = .ok (.putfield 44, 3) := by decide +kernel
theorem dX8_init_106 : decode cX8_init 106 = .ok (.aload_n 0, 1) := by decide +kernel
theorem dX8_init_107 : decode cX8_init 107 = .ok (.bipush 64, 2) := by decide +kernel
theorem dX8_init_109 : decode cX8_init 109 = .ok (.newarray .int, 2) := by decide +kernel
theorem dX8_init_111 : decode cX8_init 111 = .ok (.putfield 47, 3) := by decide +kernel
theorem dX8_init_114 : decode cX8_init 114 = .ok (.aload_n 0, 1) := by decide +kernel
theorem dX8_init_115 : decode cX8_init 115 = .ok (.bipush 64, 2) := by decide +kernel
theorem dX8_init_117 : decode cX8_init 117 = .ok (.newarray .int, 2) := by decide +kernel
theorem dX8_init_119 : decode cX8_init 119 = .ok (.putfield 50, 3) := by decide +kernel
theorem dX8_init_122 : decode cX8_init 122 = .ok (.aload_n 0, 1) := by decide +kernel
theorem dX8_init_123 : decode cX8_init 123 = .ok (.bipush 64, 2) := by decide +kernel
theorem dX8_init_125 : decode cX8_init 125 = .ok (.newarray .int, 2) := by decide +kernel
theorem dX8_init_127 : decode cX8_init 127 = .ok (.putfield 53, 3) := by decide +kernel
theorem dX8_init_130 : decode cX8_init 130 = .ok (.aload_n 0, 1) := by decide +kernel
theorem dX8_init_131 : decode cX8_init 131 = .ok (.bipush 64, 2) := by decide +kernel
theorem dX8_init_133 : decode cX8_init 133 = .ok (.newarray .int, 2) := by decide +kernel
theorem dX8_init_135 : decode cX8_init 135 = .ok (.putfield 56, 3) := by decide +kernel
theorem dX8_init_138 : decode cX8_init 138 = .ok (.aload_n 0, 1) := by decide +kernel
theorem dX8_init_139 : decode cX8_init 139 = .ok (.bipush 64, 2) := by decide +kernel
theorem dX8_init_141 : decode cX8_init 141 = .ok (.newarray .int, 2) := by decide +kernel
theorem dX8_init_143 : decode cX8_init 143 = .ok (.putfield 59, 3) := by decide +kernel
theorem dX8_init_146 : decode cX8_init 146 = .ok (.aload_n 0, 1) := by decide +kernel
theorem dX8_init_147 : decode cX8_init 147 = .ok (.bipush 64, 2) := by decide +kernel
theorem dX8_init_149 : decode cX8_init 149 = .ok (.newarray .int, 2) := by decide +kernel
theorem dX8_init_151 : decode cX8_init 151 = .ok (.putfield 62, 3) := by decide +kernel
theorem dX8_init_154 : decode cX8_init 154 = .ok (.aload_n 0, 1) := by decide +kernel
theorem dX8_init_155 : decode cX8_init 155 = .ok (.bipush 64, 2) := by decide +kernel
theorem dX8_init_157 : decode cX8_init 157 = .ok (.newarray .int, 2) := by decide +kernel
theorem dX8_init_159 : decode cX8_init 159 = .ok (.putfield 65, 3) := by decide +kernel
theorem dX8_init_162 : decode cX8_init 162 = .ok (.return_, 1) := by decide +kernel
theorem dX8_feed_0 : decode cX8_feed 0 = .ok (.aload_n 0, 1) := by decide +kernel
theorem dX8_feed_1 : decode cX8_feed 1 = .ok (.getfield 68, 3) := by decide +kernel
theorem dX8_feed_4 : decode cX8_feed 4 = .ok (.bipush 20, 2) := by decide +kernel
theorem dX8_feed_6 : decode cX8_feed 6 = .ok (.iadd, 1) := by decide +kernel
theorem dX8_feed_7 : decode cX8_feed 7 = .ok (.sipush 8000, 3) := by decide +kernel
theorem dX8_feed_10 : decode cX8_feed 10 = .ok (.if_icmp .le 6, 3) := by decide +kernel
theorem dX8_feed_13 : decode cX8_feed 13 = .ok (.bipush (-2), 2) := by decide +kernel
theorem dX8_feed_15 : decode cX8_feed 15 = .ok (.ireturn, 1) := by decide +kernel
theorem dX8_feed_16 : decode cX8_feed 16 = .ok (.iconst 0, 1) := by decide +kernel
theorem dX8_feed_17 : decode cX8_feed 17 = .ok (.istore 6, 2) := by decide +kernel
theorem dX8_feed_19 : decode cX8_feed 19 = .ok (.iload 6, 2) := by decide +kernel
theorem dX8_feed_21 : decode cX8_feed 21 = .ok (.bipush 20, 2) := by decide +kernel
theorem dX8_feed_23 : decode cX8_feed 23 = .ok (.if_icmp .ge 93, 3) := by decide +kernel
theorem dX8_feed_26 : decode cX8_feed 26 = .ok (.iload 6, 2) := by decide +kernel
theorem dX8_feed_28 : decode cX8_feed 28 = .ok (.iconst 4, 1) := by decide +kernel
theorem dX8_feed_29 : decode cX8_feed 29 = .ok (.if_icmp .ge 7, 3) := by decide +kernel
theorem dX8_feed_32 : decode cX8_feed 32 = .ok (.iload_n 1, 1) := by decide +kernel
theorem dX8_feed_33 : decode cX8_feed 33 = .ok (.goto 39, 3) := by decide +kernel
theorem dX8_feed_36 : decode cX8_feed 36 = .ok (.iload 6, 2) := by decide +kernel
theorem dX8_feed_38 : decode cX8_feed 38 = .ok (.bipush 8, 2) := by decide +kernel
theorem dX8_feed_40 : decode cX8_feed 40 = .ok (.if_icmp .ge 7, 3) := by decide +kernel
theorem dX8_feed_43 : decode cX8_feed 43 = .ok (.iload_n 2, 1) := by decide +kernel
theorem dX8_feed_44 : decode cX8_feed 44 = .ok (.goto 28, 3) := by decide +kernel
theorem dX8_feed_47 : decode cX8_feed 47 = .ok (.iload 6, 2) := by decide +kernel
theorem dX8_feed_49 : decode cX8_feed 49 = .ok (.bipush 12, 2) := by decide +kernel
theorem dX8_feed_51 : decode cX8_feed 51 = .ok (.if_icmp .ge 7, 3) := by decide +kernel
theorem dX8_feed_54 : decode cX8_feed 54 = .ok (.iload_n 3, 1) := by decide +kernel
theorem dX8_feed_55 : decode cX8_feed 55 = .ok (.goto 17, 3) := by decide +kernel
theorem dX8_feed_58 : decode cX8_feed 58 = .ok (.iload 6, 2) := by decide +kernel
theorem dX8_feed_60 : decode cX8_feed 60 = .ok (.bipush 16, 2) := by decide +kernel
theorem dX8_feed_62 : decode cX8_feed 62 = .ok (.if_icmp .ge 8, 3) := by decide +kernel
theorem dX8_feed_65 : decode cX8_feed 65 = .ok (.iload 4, 2) := by decide +kernel
theorem dX8_feed_67 : decode cX8_feed 67 = .ok (.goto 5, 3) := by decide +kernel
theorem dX8_feed_70 : decode cX8_feed 70 = .ok (.iload 5, 2) := by decide +kernel
theorem dX8_feed_72 : decode cX8_feed 72 = .ok (.istore 7, 2) := by decide +kernel
theorem dX8_feed_74 : decode cX8_feed 74 = .ok (.aload_n 0, 1) := by decide +kernel
theorem dX8_feed_75 : decode cX8_feed 75 = .ok (.getfield 9, 3) := by decide +kernel
theorem dX8_feed_78 : decode cX8_feed 78 = .ok (.aload_n 0, 1) := by decide +kernel
theorem dX8_feed_79 : decode cX8_feed 79 = .ok (.getfield 68, 3) := by decide +kernel
theorem dX8_feed_82 : decode cX8_feed 82 = .ok (.iload 7, 2) := by decide +kernel
theorem dX8_feed_84 : decode cX8_feed 84 = .ok (.bipush 24, 2) := by decide +kernel
theorem dX8_feed_86 : decode cX8_feed 86 = .ok (.bipush 8, 2) := by decide +kernel
theorem dX8_feed_88 : decode cX8_feed 88 = .ok (.iload 6, 2) := by decide +kernel
theorem dX8_feed_90 : decode cX8_feed 90 = .ok (.iconst 3, 1) := by decide +kernel
theorem dX8_feed_91 : decode cX8_feed 91 = .ok (.iand, 1) := by decide +kernel
theorem dX8_feed_92 : decode cX8_feed 92 = .ok (.imul, 1) := by decide +kernel
theorem dX8_feed_93 : decode cX8_feed 93 = .ok (.isub, 1) := by decide +kernel
theorem dX8_feed_94 : decode cX8_feed 94 = .ok (.iushr, 1) := by decide +kernel
theorem dX8_feed_95 : decode cX8_feed 95 = .ok (.sipush 255, 3) := by decide +kernel
theorem dX8_feed_98 : decode cX8_feed 98 = .ok (.iand, 1) := by decide +kernel
theorem dX8_feed_99 : decode cX8_feed 99 = .ok (.iastore, 1) := by decide +kernel
theorem dX8_feed_100 : decode cX8_feed 100 = .ok (.aload_n 0, 1) := by decide +kernel
theorem dX8_feed_101 : decode cX8_feed 101 = .ok (.dup, 1) := by decide +kernel
theorem dX8_feed_102 : decode cX8_feed 102 = .ok (.getfield 68, 3) := by decide +kernel
theorem dX8_feed_105 : decode cX8_feed 105 = .ok (.iconst 1, 1) := by decide +kernel
theorem dX8_feed_106 : decode cX8_feed 106 = .ok (.iadd, 1) := by decide +kernel
theorem dX8_feed_107 : decode cX8_feed 107 = .ok (.putfield 68, 3) := by decide +kernel
theorem dX8_feed_110 : decode cX8_feed 110 = .ok (.iinc 6 1, 3) := by decide +kernel
theorem dX8_feed_113 : decode cX8_feed 113 = .ok (.goto (-94), 3) := by decide +kernel
theorem dX8_feed_116 : decode cX8_feed 116 = .ok (.aload_n 0, 1) := by decide +kernel
theorem dX8_feed_117 : decode cX8_feed 117 = .ok (.getfield 68, 3) := by decide +kernel
theorem dX8_feed_120 : decode cX8_feed 120 = .ok (.ireturn, 1) := by decide +kernel
theorem dX8_bad_0 : decode cX8_bad 0 = .ok (.aload_n 0, 1) := by decide +kernel
theorem dX8_bad_1 : decode cX8_bad 1 = .ok (.aload_n 0, 1) := by decide +kernel
theorem dX8_bad_2 : decode cX8_bad 2 = .ok (.getfield 72, 3) := by decide +kernel
theorem dX8_bad_5 : decode cX8_bad 5 = .ok (.ifCond .ge 7, 3) := by decide +kernel
theorem dX8_bad_8 : decode cX8_bad 8 = .ok (.iload_n 1, 1) := by decide +kernel
theorem dX8_bad_9 : decode cX8_bad 9 = .ok (.goto 7, 3) := by decide +kernel
theorem dX8_bad_12 : decode cX8_bad 12 = .ok (.aload_n 0, 1) := by decide +kernel
theorem dX8_bad_13 : decode cX8_bad 13 = .ok (.getfield 72, 3) := by decide +kernel
theorem dX8_bad_16 : decode cX8_bad 16 = .ok (.putfield 72, 3) := by decide +kernel
theorem dX8_bad_19 : decode cX8_bad 19 = .ok (.iconst 0, 1) := by decide +kernel
theorem dX8_bad_20 : decode cX8_bad 20 = .ok (.ireturn, 1) := by decide +kernel
theorem dX8_here_0 : decode cX8_here 0 = .ok (.aload_n 0, 1) := by decide +kernel
theorem dX8_here_1 : decode cX8_here 1 = .ok (.getfield 75, 3) := by decide +kernel
theorem dX8_here_4 : decode cX8_here 4 = .ok (.aload_n 0, 1) := by decide +kernel
theorem dX8_here_5 : decode cX8_here 5 = .ok (.getfield 78, 3) := by decide +kernel
theorem dX8_here_8 : decode cX8_here 8 = .ok (.if_icmp .ge 15, 3) := by decide +kernel
theorem dX8_here_11 : decode cX8_here 11 = .ok (.aload_n 0, 1) := by decide +kernel
theorem dX8_here_12 : decode cX8_here 12 = .ok (.getfield 13, 3) := by decide +kernel
theorem dX8_here_15 : decode cX8_here 15 = .ok (.aload_n 0, 1) := by decide +kernel
theorem dX8_here_16 : decode cX8_here 16 = .ok (.getfield 75, 3) := by decide +kernel
theorem dX8_here_19 : decode cX8_here 19 = .ok (.iaload, 1) := by decide +kernel
theorem dX8_here_20 : decode cX8_here 20 = .ok (.goto 6, 3) := by decide +kernel
theorem dX8_here_23 : decode cX8_here 23 = .ok (.sipush 256, 3) := by decide +kernel
theorem dX8_here_26 : decode cX8_here 26 = .ok (.ireturn, 1) := by decide +kernel
set_option maxRecDepth 20000 in
theorem ggX8_over_X8_here : GoodIn wsX8_over wsX8_here := goodIn_r _ [6, 1, 7, 8, 14, 15, 16, 17, 18, 19, 20, 21, 22, 23, 24, 25, 26, 27, 28, 29, 30, 31, 32, 33, 34, 35, 36, 37, 38, 39, 40, 41] (by decide +kernel) (by decide +kernel)
set_option maxRecDepth 20000 in
theorem gX8_over_X8_here : GoodIn wsX8_over (wsV RX8 81 RX8 yX8_here wsX8_here) := goodIn_app (goodIn_of _ (by decide +kernel)) ggX8_over_X8_here
set_option maxRecDepth 20000 in
theorem ggX8_over_X8_bad : GoodIn wsX8_over wsX8_bad := goodIn_r _ [12, 13, 14, 15, 16, 17, 18, 19, 20, 21, 22, 23, 24, 25, 26, 27, 28, 29, 30, 31, 32, 33, 34, 35, 36, 37, 38, 39, 40, 41] (by decide +kernel) (by decide +kernel)
set_option maxRecDepth 20000 in
theorem gX8_over_X8_bad : GoodIn wsX8_over (wsV RX8 85 RX8 yX8_bad wsX8_bad) := goodIn_app (goodIn_of _ (by decide +kernel)) ggX8_over_X8_bad
theorem dX8_over_0 : decode cX8_over 0 = .ok (.aload_n 0, 1) := by decide +kernel
theorem dX8_over_1 : decode cX8_over 1 = .ok (.invokevirtual 81, 3) := by decide +kernel
theorem dX8_over_4 : decode cX8_over 4 = .ok (.iload_n 1, 1) := by decide +kernel
theorem dX8_over_5 : decode cX8_over 5 = .ok (.if_icmp .lt 21, 3) := by decide +kernel
theorem dX8_over_8 : decode cX8_over 8 = .ok (.aload_n 0, 1) := by decide +kernel
theorem dX8_over_9 : decode cX8_over 9 = .ok (.invokevirtual 81, 3) := by decide +kernel
theorem dX8_over_12 : decode cX8_over 12 = .ok (.iload_n 2, 1) := by decide +kernel
theorem dX8_over_13 : decode cX8_over 13 = .ok (.if_icmp .gt 13, 3) := by decide +kernel
theorem dX8_over_16 : decode cX8_over 16 = .ok (.aload_n 0, 1) := by decide +kernel
theorem dX8_over_17 : decode cX8_over 17 = .ok (.invokevirtual 81, 3) := by decide +kernel
theorem dX8_over_20 : decode cX8_over 20 = .ok (.sipush 256, 3) := by decide +kernel
theorem dX8_over_23 : decode cX8_over 23 = .ok (.if_icmp .ne 12, 3) := by decide +kernel
theorem dX8_over_26 : decode cX8_over 26 = .ok (.aload_n 0, 1) := by decide +kernel
theorem dX8_over_27 : decode cX8_over 27 = .ok (.aload_n 0, 1) := by decide +kernel
theorem dX8_over_28 : decode cX8_over 28 = .ok (.getfield 75, 3) := by decide +kernel
theorem dX8_over_31 : decode cX8_over 31 = .ok (.invokevirtual 85, 3) := by decide +kernel
theorem dX8_over_34 : decode cX8_over 34 = .ok (.ireturn, 1) := by decide +kernel
theorem dX8_over_35 : decode cX8_over 35 = .ok (.aload_n 0, 1) := by decide +kernel
theorem dX8_over_36 : decode cX8_over 36 = .ok (.dup, 1) := by decide +kernel
theorem dX8_over_37 : decode cX8_over 37 = .ok (.getfield 75, 3) := by decide +kernel
theorem dX8_over_40 : decode cX8_over 40 = .ok (.iconst 1, 1) := by decide +kernel
theorem dX8_over_41 : decode cX8_over 41 = .ok (.iadd, 1) := by decide +kernel
theorem dX8_over_42 : decode cX8_over 42 = .ok (.putfield 75, 3) := by decide +kernel
theorem dX8_over_45 : decode cX8_over 45 = .ok (.iconst 1, 1) := by decide +kernel
theorem dX8_over_46 : decode cX8_over 46 = .ok (.ireturn, 1) := by decide +kernel
theorem dX8_last_0 : decode cX8_last 0 = .ok (.aload_n 0, 1) := by decide +kernel
theorem dX8_last_1 : decode cX8_last 1 = .ok (.getfield 13, 3) := by decide +kernel
theorem dX8_last_4 : decode cX8_last 4 = .ok (.aload_n 0, 1) := by decide +kernel
theorem dX8_last_5 : decode cX8_last 5 = .ok (.getfield 75, 3) := by decide +kernel
theorem dX8_last_8 : decode cX8_last 8 = .ok (.iconst 1, 1) := by decide +kernel
theorem dX8_last_9 : decode cX8_last 9 = .ok (.isub, 1) := by decide +kernel
theorem dX8_last_10 : decode cX8_last 10 = .ok (.iaload, 1) := by decide +kernel
theorem dX8_last_11 : decode cX8_last 11 = .ok (.ireturn, 1) := by decide +kernel
theorem dX8_two_0 : decode cX8_two 0 = .ok (.aload_n 0, 1) := by decide +kernel
theorem dX8_two_1 : decode cX8_two 1 = .ok (.getfield 13, 3) := by decide +kernel
theorem dX8_two_4 : decode cX8_two 4 = .ok (.iload_n 1, 1) := by decide +kernel
theorem dX8_two_5 : decode cX8_two 5 = .ok (.iaload, 1) := by decide +kernel
theorem dX8_two_6 : decode cX8_two 6 = .ok (.bipush 8, 2) := by decide +kernel
theorem dX8_two_8 : decode cX8_two 8 = .ok (.ishl, 1) := by decide +kernel
theorem dX8_two_9 : decode cX8_two 9 = .ok (.aload_n 0, 1) := by decide +kernel
theorem dX8_two_10 : decode cX8_two 10 = .ok (.getfield 13, 3) := by decide +kernel
theorem dX8_two_13 : decode cX8_two 13 = .ok (.iload_n 1, 1) := by decide +kernel
theorem dX8_two_14 : decode cX8_two 14 = .ok (.iconst 1, 1) := by decide +kernel
theorem dX8_two_15 : decode cX8_two 15 = .ok (.iadd, 1) := by decide +kernel
theorem dX8_two_16 : decode cX8_two 16 = .ok (.iaload, 1) := by decide +kernel
theorem dX8_two_17 : decode cX8_two 17 = .ok (.ior, 1) := by decide +kernel
theorem dX8_two_18 : decode cX8_two 18 = .ok (.ireturn, 1) := by decide +kernel
set_option maxRecDepth 20000 in
theorem ggX8_overClass_X8_over : GoodIn wsX8_overClass wsX8_over := goodIn_r _ [6, 7, 8, 9, 10, 5, 11, 12, 13, 14, 15, 16, 17, 18, 19, 20, 21, 22, 23, 24, 25, 26, 27, 28, 29, 30, 31, 32, 33, 34, 35, 36, 37, 38, 39, 40, 41, 42, 43, 44, 45, 46] (by decide +kernel) (by decide +kernel)
set_option maxRecDepth 20000 in
theorem gX8_overClass_X8_over : GoodIn wsX8_overClass (wsV RX8 92 RX8 yX8_over wsX8_over) := goodIn_app (goodIn_of _ (by decide +kernel)) ggX8_overClass_X8_over
theorem dX8_overClass_0 : decode cX8_overClass 0 = .ok (.aload_n 0, 1) := by decide +kernel
theorem dX8_overClass_1 : decode cX8_overClass 1 = .ok (.iconst 0, 1) := by decide +kernel
theorem dX8_overClass_2 : decode cX8_overClass 2 = .ok (.aload_n 0, 1) := by decide +kernel
theorem dX8_overClass_3 : decode cX8_overClass 3 = .ok (.getfield 89, 3) := by decide +kernel
theorem dX8_overClass_6 : decode cX8_overClass 6 = .ok (.iconst 1, 1) := by decide +kernel
theorem dX8_overClass_7 : decode cX8_overClass 7 = .ok (.isub, 1) := by decide +kernel
theorem dX8_overClass_8 : decode cX8_overClass 8 = .ok (.invokevirtual 92, 3) := by decide +kernel
theorem dX8_overClass_11 : decode cX8_overClass 11 = .ok (.ireturn, 1) := by decide +kernel
set_option maxRecDepth 20000 in
theorem ggX8_overType_X8_here : GoodIn wsX8_overType wsX8_here := goodIn_r _ [7, 2, 8, 9, 15, 16, 17, 18, 19, 20, 21, 22, 23, 24, 25, 26, 27, 28, 29, 30, 31, 32, 33, 34, 35, 36, 37, 38, 39, 40, 41, 42] (by decide +kernel) (by decide +kernel)
set_option maxRecDepth 20000 in
theorem gX8_overType_X8_here : GoodIn wsX8_overType (wsV RX8 81 RX8 yX8_here wsX8_here) := goodIn_app (goodIn_of _ (by decide +kernel)) ggX8_overType_X8_here
set_option maxRecDepth 20000 in
theorem ggX8_overType_X8_bad : GoodIn wsX8_overType wsX8_bad := goodIn_r _ [13, 14, 15, 16, 17, 18, 19, 20, 21, 22, 23, 24, 25, 26, 27, 28, 29, 30, 31, 32, 33, 34, 35, 36, 37, 38, 39, 40, 41, 42] (by decide +kernel) (by decide +kernel)
set_option maxRecDepth 20000 in
theorem gX8_overType_X8_bad : GoodIn wsX8_overType (wsV RX8 85 RX8 yX8_bad wsX8_bad) := goodIn_app (goodIn_of _ (by decide +kernel)) ggX8_overType_X8_bad
theorem dX8_overType_0 : decode cX8_overType 0 = .ok (.aload_n 0, 1) := by decide +kernel
theorem dX8_overType_1 : decode cX8_overType 1 = .ok (.invokevirtual 81, 3) := by decide +kernel
theorem dX8_overType_4 : decode cX8_overType 4 = .ok (.istore_n 2, 1) := by decide +kernel
theorem dX8_overType_5 : decode cX8_overType 5 = .ok (.iload_n 2, 1) := by decide +kernel
theorem dX8_overType_6 : decode cX8_overType 6 = .ok (.aload_n 0, 1) := by decide +kernel
theorem dX8_overType_7 : decode cX8_overType 7 = .ok (.getfield 89, 3) := by decide +kernel
theorem dX8_overType_10 : decode cX8_overType 10 = .ok (.if_icmp .le 31, 3) := by decide +kernel
theorem dX8_overType_13 : decode cX8_overType 13 = .ok (.iload_n 2, 1) := by decide +kernel
theorem dX8_overType_14 : decode cX8_overType 14 = .ok (.bipush 64, 2) := by decide +kernel
theorem dX8_overType_16 : decode cX8_overType 16 = .ok (.if_icmp .lt 14, 3) := by decide +kernel
theorem dX8_overType_19 : decode cX8_overType 19 = .ok (.iload_n 2, 1) := by decide +kernel
theorem dX8_overType_20 : decode cX8_overType 20 = .ok (.bipush 64, 2) := by decide +kernel
theorem dX8_overType_22 : decode cX8_overType 22 = .ok (.aload_n 0, 1) := by decide +kernel
theorem dX8_overType_23 : decode cX8_overType 23 = .ok (.getfield 89, 3) := by decide +kernel
theorem dX8_overType_26 : decode cX8_overType 26 = .ok (.iadd, 1) := by decide +kernel
theorem dX8_overType_27 : decode cX8_overType 27 = .ok (.if_icmp .le 14, 3) := by decide +kernel
theorem dX8_overType_30 : decode cX8_overType 30 = .ok (.iload_n 1, 1) := by decide +kernel
theorem dX8_overType_31 : decode cX8_overType 31 = .ok (.ifCond .eq 14, 3) := by decide +kernel
theorem dX8_overType_34 : decode cX8_overType 34 = .ok (.iload_n 2, 1) := by decide +kernel
theorem dX8_overType_35 : decode cX8_overType 35 = .ok (.sipush 255, 3) := by decide +kernel
theorem dX8_overType_38 : decode cX8_overType 38 = .ok (.if_icmp .ne 7, 3) := by decide +kernel
theorem dX8_overType_41 : decode cX8_overType 41 = .ok (.iconst 1, 1) := by decide +kernel
theorem dX8_overType_42 : decode cX8_overType 42 = .ok (.goto 4, 3) := by decide +kernel
theorem dX8_overType_45 : decode cX8_overType 45 = .ok (.iconst 0, 1) := by decide +kernel
theorem dX8_overType_46 : decode cX8_overType 46 = .ok (.istore_n 3, 1) := by decide +kernel
theorem dX8_overType_47 : decode cX8_overType 47 = .ok (.iload_n 3, 1) := by decide +kernel
theorem dX8_overType_48 : decode cX8_overType 48 = .ok (.ifCond .ne 12, 3) := by decide +kernel
theorem dX8_overType_51 : decode cX8_overType 51 = .ok (.aload_n 0, 1) := by decide +kernel
theorem dX8_overType_52 : decode cX8_overType 52 = .ok (.aload_n 0, 1) := by decide +kernel
theorem dX8_overType_53 : decode cX8_overType 53 = .ok (.getfield 75, 3) := by decide +kernel
theorem dX8_overType_56 : decode cX8_overType 56 = .ok (.invokevirtual 85, 3) := by decide +kernel
theorem dX8_overType_59 : decode cX8_overType 59 = .ok (.ireturn, 1) := by decide +kernel
theorem dX8_overType_60 : decode cX8_overType 60 = .ok (.aload_n 0, 1) := by decide +kernel
theorem dX8_overType_61 : decode cX8_overType 61 = .ok (.dup, 1) := by decide +kernel
theorem dX8_overType_62 : decode cX8_overType 62 = .ok (.getfield 75, 3) := by decide +kernel
theorem dX8_overType_65 : decode cX8_overType 65 = .ok (.iconst 1, 1) := by decide +kernel
theorem dX8_overType_66 : decode cX8_overType 66 = .ok (.iadd, 1) := by decide +kernel
theorem dX8_overType_67 : decode cX8_overType 67 = .ok (.putfield 75, 3) := by decide +kernel
theorem dX8_overType_70 : decode cX8_overType 70 = .ok (.iconst 1, 1) := by decide +kernel
theorem dX8_overType_71 : decode cX8_overType 71 = .ok (.ireturn, 1) := by decide +kernel
set_option maxRecDepth 20000 in
theorem ggX8_readClass_X8_here : GoodIn wsX8_readClass wsX8_here := goodIn_r _ [11, 1, 12, 13, 32, 33, 34, 35, 36, 37, 38, 39, 40, 41, 42, 43, 44, 45, 46, 47, 48, 49, 50, 51, 52, 53, 54, 55, 56, 57, 58, 59] (by decide +kernel) (by decide +kernel)
set_option maxRecDepth 20000 in
theorem gX8_readClass_X8_here : GoodIn wsX8_readClass (wsV RX8 81 RX8 yX8_here wsX8_here) := goodIn_app (goodIn_of _ (by decide +kernel)) ggX8_readClass_X8_here
set_option maxRecDepth 20000 in
theorem ggX8_readClass_X8_bad : GoodIn wsX8_readClass wsX8_bad := goodIn_r _ [17, 18, 32, 33, 34, 35, 36, 37, 38, 39, 40, 41, 42, 43, 44, 45, 46, 47, 48, 49, 50, 51, 52, 53, 54, 55, 56, 57, 58, 59] (by decide +kernel) (by decide +kernel)
set_option maxRecDepth 20000 in
theorem gX8_readClass_X8_bad : GoodIn wsX8_readClass (wsV RX8 85 RX8 yX8_bad wsX8_bad) := goodIn_app (goodIn_of _ (by decide +kernel)) ggX8_readClass_X8_bad
set_option maxRecDepth 20000 in
theorem ggX8_readClass_X8_over : GoodIn wsX8_readClass wsX8_over := goodIn_r _ [22, 1, 7, 8, 9, 10, 11, 12, 13, 14, 15, 16, 17, 18, 32, 33, 34, 35, 36, 37, 38, 39, 40, 41, 42, 43, 44, 45, 46, 47, 48, 49, 50, 51, 52, 53, 54, 55, 56, 57, 58, 59] (by decide +kernel) (by decide +kernel)
set_option maxRecDepth 20000 in
theorem gX8_readClass_X8_over : GoodIn wsX8_readClass (wsV RX8 92 RX8 yX8_over wsX8_over) := goodIn_app (goodIn_of _ (by decide +kernel)) ggX8_readClass_X8_over
set_option maxRecDepth 20000 in
theorem ggX8_readClass_X8_last : GoodIn wsX8_readClass wsX8_last := goodIn_r _ [26, 13, 1, 32, 33, 34, 35, 36, 37, 38, 39, 40, 41, 42, 43, 44, 45, 46, 47, 48, 49, 50, 51, 52, 53, 54, 55, 56, 57, 58, 59] (by decide +kernel) (by decide +kernel)
set_option maxRecDepth 20000 in
theorem gX8_readClass_X8_last : GoodIn wsX8_readClass (wsV RX8 96 RX8 yX8_last wsX8_last) := goodIn_app (goodIn_of _ (by decide +kernel)) ggX8_readClass_X8_last
set_option maxRecDepth 20000 in
theorem ggX8_readClass_X8_overType : GoodIn wsX8_readClass wsX8_overType := goodIn_r _ [30, 31, 1, 7, 8, 9, 10, 11, 12, 13, 14, 15, 16, 17, 18, 32, 33, 34, 35, 36, 37, 38, 39, 40, 41, 42, 43, 44, 45, 46, 47, 48, 49, 50, 51, 52, 53, 54, 55, 56, 57, 58, 59] (by decide +kernel) (by decide +kernel)
set_option maxRecDepth 20000 in
theorem gX8_readClass_X8_overType : GoodIn wsX8_readClass (wsV RX8 99 RX8 yX8_overType wsX8_overType) := goodIn_app (goodIn_of _ (by decide +kernel)) ggX8_readClass_X8_overType
theorem dX8_readClass_0 : decode cX8_readClass 0 = .ok (.aload_n 0, 1) := by decide +kernel
theorem dX8_readClass_1 : decode cX8_readClass 1 = .ok (.invokevirtual 81, 3) := by decide +kernel
theorem dX8_readClass_4 : decode cX8_readClass 4 = .ok (.sipush 255, 3) := by decide +kernel
theorem dX8_readClass_7 : decode cX8_readClass 7 = .ok (.if_icmp .eq 20, 3) := by decide +kernel
theorem dX8_readClass_10 : decode cX8_readClass 10 = .ok (.aload_n 0, 1) := by decide +kernel
theorem dX8_readClass_11 : decode cX8_readClass 11 = .ok (.invokevirtual 81, 3) := by decide +kernel
theorem dX8_readClass_14 : decode cX8_readClass 14 = .ok (.iload_n 1, 1) := by decide +kernel
theorem dX8_readClass_15 : decode cX8_readClass 15 = .ok (.if_icmp .lt 12, 3) := by decide +kernel
theorem dX8_readClass_18 : decode cX8_readClass 18 = .ok (.aload_n 0, 1) := by decide +kernel
theorem dX8_readClass_19 : decode cX8_readClass 19 = .ok (.aload_n 0, 1) := by decide +kernel
theorem dX8_readClass_20 : decode cX8_readClass 20 = .ok (.getfield 75, 3) := by decide +kernel
theorem dX8_readClass_23 : decode cX8_readClass 23 = .ok (.invokevirtual 85, 3) := by decide +kernel
theorem dX8_readClass_26 : decode cX8_readClass 26 = .ok (.ireturn, 1) := by decide +kernel
theorem dX8_readClass_27 : decode cX8_readClass 27 = .ok (.aload_n 0, 1) := by decide +kernel
theorem dX8_readClass_28 : decode cX8_readClass 28 = .ok (.getfield 20, 3) := by decide +kernel
theorem dX8_readClass_31 : decode cX8_readClass 31 = .ok (.iload_n 1, 1) := by decide +kernel
theorem dX8_readClass_32 : decode cX8_readClass 32 = .ok (.aload_n 0, 1) := by decide +kernel
theorem dX8_readClass_33 : decode cX8_readClass 33 = .ok (.invokevirtual 81, 3) := by decide +kernel
theorem dX8_readClass_36 : decode cX8_readClass 36 = .ok (.sipush 255, 3) := by decide +kernel
theorem dX8_readClass_39 : decode cX8_readClass 39 = .ok (.if_icmp .ne 7, 3) := by decide +kernel
theorem dX8_readClass_42 : decode cX8_readClass 42 = .ok (.iconst (-1), 1) := by decide +kernel
theorem dX8_readClass_43 : decode cX8_readClass 43 = .ok (.goto 7, 3) := by decide +kernel
theorem dX8_readClass_46 : decode cX8_readClass 46 = .ok (.aload_n 0, 1) := by decide +kernel
theorem dX8_readClass_47 : decode cX8_readClass 47 = .ok (.invokevirtual 81, 3) := by decide +kernel
theorem dX8_readClass_50 : decode cX8_readClass 50 = .ok (.iastore, 1) := by decide +kernel
theorem dX8_readClass_51 : decode cX8_readClass 51 = .ok (.aload_n 0, 1) := by decide +kernel
theorem dX8_readClass_52 : decode cX8_readClass 52 = .ok (.dup, 1) := by decide +kernel
theorem dX8_readClass_53 : decode cX8_readClass 53 = .ok (.getfield 75, 3) := by decide +kernel
theorem dX8_readClass_56 : decode cX8_readClass 56 = .ok (.iconst 1, 1) := by decide +kernel
theorem dX8_readClass_57 : decode cX8_readClass 57 = .ok (.iadd, 1) := by decide +kernel
theorem dX8_readClass_58 : decode cX8_readClass 58 = .ok (.putfield 75, 3) := by decide +kernel
theorem dX8_readClass_61 : decode cX8_readClass 61 = .ok (.aload_n 0, 1) := by decide +kernel
theorem dX8_readClass_62 : decode cX8_readClass 62 = .ok (.getfield 20, 3) := by decide +kernel
theorem dX8_readClass_65 : decode cX8_readClass 65 = .ok (.iload_n 1, 1) := by decide +kernel
theorem dX8_readClass_66 : decode cX8_readClass 66 = .ok (.iaload, 1) := by decide +kernel
theorem dX8_readClass_67 : decode cX8_readClass 67 = .ok (.istore_n 2, 1) := by decide +kernel
theorem dX8_readClass_68 : decode cX8_readClass 68 = .ok (.iload_n 2, 1) := by decide +kernel
theorem dX8_readClass_69 : decode cX8_readClass 69 = .ok (.ifCond .ge 7, 3) := by decide +kernel
theorem dX8_readClass_72 : decode cX8_readClass 72 = .ok (.iconst 0, 1) := by decide +kernel
theorem dX8_readClass_73 : decode cX8_readClass 73 = .ok (.goto 9, 3) := by decide +kernel
theorem dX8_readClass_76 : decode cX8_readClass 76 = .ok (.aload_n 0, 1) := by decide +kernel
theorem dX8_readClass_77 : decode cX8_readClass 77 = .ok (.getfield 23, 3) := by decide +kernel
theorem dX8_readClass_80 : decode cX8_readClass 80 = .ok (.iload_n 2, 1) := by decide +kernel
theorem dX8_readClass_81 : decode cX8_readClass 81 = .ok (.iaload, 1) := by decide +kernel
theorem dX8_readClass_82 : decode cX8_readClass 82 = .ok (.istore_n 3, 1) := by decide +kernel
theorem dX8_readClass_83 : decode cX8_readClass 83 = .ok (.iconst 0, 1) := by decide +kernel
theorem dX8_readClass_84 : decode cX8_readClass 84 = .ok (.istore 4, 2) := by decide +kernel
theorem dX8_readClass_86 : decode cX8_readClass 86 = .ok (.iload 4, 2) := by decide +kernel
theorem dX8_readClass_88 : decode cX8_readClass 88 = .ok (.iload_n 3, 1) := by decide +kernel
theorem dX8_readClass_89 : decode cX8_readClass 89 = .ok (.if_icmp .ge 33, 3) := by decide +kernel
theorem dX8_readClass_92 : decode cX8_readClass 92 = .ok (.aload_n 0, 1) := by decide +kernel
theorem dX8_readClass_93 : decode cX8_readClass 93 = .ok (.getfield 26, 3) := by decide +kernel
theorem dX8_readClass_96 : decode cX8_readClass 96 = .ok (.bipush 15, 2) := by decide +kernel
theorem dX8_readClass_98 : decode cX8_readClass 98 = .ok (.iload_n 1, 1) := by decide +kernel
theorem dX8_readClass_99 : decode cX8_readClass 99 = .ok (.imul, 1) := by decide +kernel
theorem dX8_readClass_100 : decode cX8_readClass 100 = .ok (.iload 4, 2) := by decide +kernel
theorem dX8_readClass_102 : decode cX8_readClass 102 = .ok (.iadd, 1) := by decide +kernel
theorem dX8_readClass_103 : decode cX8_readClass 103 = .ok (.aload_n 0, 1) := by decide +kernel
theorem dX8_readClass_104 : decode cX8_readClass 104 = .ok (.getfield 26, 3) := by decide +kernel
theorem dX8_readClass_107 : decode cX8_readClass 107 = .ok (.bipush 15, 2) := by decide +kernel
theorem dX8_readClass_109 : decode cX8_readClass 109 = .ok (.iload_n 2, 1) := by decide +kernel
theorem dX8_readClass_110 : decode cX8_readClass 110 = .ok (.imul, 1) := by decide +kernel
theorem dX8_readClass_111 : decode cX8_readClass 111 = .ok (.iload 4, 2) := by decide +kernel
theorem dX8_readClass_113 : decode cX8_readClass 113 = .ok (.iadd, 1) := by decide +kernel
theorem dX8_readClass_114 : decode cX8_readClass 114 = .ok (.iaload, 1) := by decide +kernel
theorem dX8_readClass_115 : decode cX8_readClass 115 = .ok (.iastore, 1) := by decide +kernel
theorem dX8_readClass_116 : decode cX8_readClass 116 = .ok (.iinc 4 1, 3) := by decide +kernel
theorem dX8_readClass_119 : decode cX8_readClass 119 = .ok (.goto (-33), 3) := by decide +kernel
theorem dX8_readClass_122 : decode cX8_readClass 122 = .ok (.aload_n 0, 1) := by decide +kernel
theorem dX8_readClass_123 : decode cX8_readClass 123 = .ok (.iconst 0, 1) := by decide +kernel
theorem dX8_readClass_124 : decode cX8_readClass 124 = .ok (.bipush 15, 2) := by decide +kernel
theorem dX8_readClass_126 : decode cX8_readClass 126 = .ok (.iload_n 3, 1) := by decide +kernel
theorem dX8_readClass_127 : decode cX8_readClass 127 = .ok (.isub, 1) := by decide +kernel
theorem dX8_readClass_128 : decode cX8_readClass 128 = .ok (.invokevirtual 92, 3) := by decide +kernel
theorem dX8_readClass_131 : decode cX8_readClass 131 = .ok (.ifCond .ne 5, 3) := by decide +kernel
theorem dX8_readClass_134 : decode cX8_readClass 134 = .ok (.iconst 0, 1) := by decide +kernel
theorem dX8_readClass_135 : decode cX8_readClass 135 = .ok (.ireturn, 1) := by decide +kernel
theorem dX8_readClass_136 : decode cX8_readClass 136 = .ok (.aload_n 0, 1) := by decide +kernel
theorem dX8_readClass_137 : decode cX8_readClass 137 = .ok (.getfield 23, 3) := by decide +kernel
theorem dX8_readClass_140 : decode cX8_readClass 140 = .ok (.iload_n 1, 1) := by decide +kernel
theorem dX8_readClass_141 : decode cX8_readClass 141 = .ok (.iload_n 3, 1) := by decide +kernel
theorem dX8_readClass_142 : decode cX8_readClass 142 = .ok (.aload_n 0, 1) := by decide +kernel
theorem dX8_readClass_143 : decode cX8_readClass 143 = .ok (.invokevirtual 96, 3) := by decide +kernel
theorem dX8_readClass_146 : decode cX8_readClass 146 = .ok (.iadd, 1) := by decide +kernel
theorem dX8_readClass_147 : decode cX8_readClass 147 = .ok (.iastore, 1) := by decide +kernel
theorem dX8_readClass_148 : decode cX8_readClass 148 = .ok (.iload_n 3, 1) := by decide +kernel
theorem dX8_readClass_149 : decode cX8_readClass 149 = .ok (.istore 4, 2) := by decide +kernel
theorem dX8_readClass_151 : decode cX8_readClass 151 = .ok (.iload 4, 2) := by decide +kernel
theorem dX8_readClass_153 : decode cX8_readClass 153 = .ok (.aload_n 0, 1) := by decide +kernel
theorem dX8_readClass_154 : decode cX8_readClass 154 = .ok (.getfield 23, 3) := by decide +kernel
theorem dX8_readClass_157 : decode cX8_readClass 157 = .ok (.iload_n 1, 1) := by decide +kernel
theorem dX8_readClass_158 : decode cX8_readClass 158 = .ok (.iaload, 1) := by decide +kernel
theorem dX8_readClass_159 : decode cX8_readClass 159 = .ok (.if_icmp .ge 35, 3) := by decide +kernel
theorem dX8_readClass_162 : decode cX8_readClass 162 = .ok (.aload_n 0, 1) := by decide +kernel
theorem dX8_readClass_163 : decode cX8_readClass 163 = .ok (.iconst 0, 1) := by decide +kernel
theorem dX8_readClass_164 : decode cX8_readClass 164 = .ok (.invokevirtual 99, 3) := by decide +kernel
theorem dX8_readClass_167 : decode cX8_readClass 167 = .ok (.ifCond .ne 5, 3) := by decide +kernel
theorem dX8_readClass_170 : decode cX8_readClass 170 = .ok (.iconst 0, 1) := by decide +kernel
theorem dX8_readClass_171 : decode cX8_readClass 171 = .ok (.ireturn, 1) := by decide +kernel
theorem dX8_readClass_172 : decode cX8_readClass 172 = .ok (.aload_n 0, 1) := by decide +kernel
theorem dX8_readClass_173 : decode cX8_readClass 173 = .ok (.getfield 26, 3) := by decide +kernel
theorem dX8_readClass_176 : decode cX8_readClass 176 = .ok (.bipush 15, 2) := by decide +kernel
theorem dX8_readClass_178 : decode cX8_readClass 178 = .ok (.iload_n 1, 1) := by decide +kernel
theorem dX8_readClass_179 : decode cX8_readClass 179 = .ok (.imul, 1) := by decide +kernel
theorem dX8_readClass_180 : decode cX8_readClass 180 = .ok (.iload 4, 2) := by decide +kernel
theorem dX8_readClass_182 : decode cX8_readClass 182 = .ok (.iadd, 1) := by decide +kernel
theorem dX8_readClass_183 : decode cX8_readClass 183 = .ok (.aload_n 0, 1) := by decide +kernel
theorem dX8_readClass_184 : decode cX8_readClass 184 = .ok (.invokevirtual 96, 3) := by decide +kernel
theorem dX8_readClass_187 : decode cX8_readClass 187 = .ok (.iastore, 1) := by decide +kernel
theorem dX8_readClass_188 : decode cX8_readClass 188 = .ok (.iinc 4 1, 3) := by decide +kernel
theorem dX8_readClass_191 : decode cX8_readClass 191 = .ok (.goto (-40), 3) := by decide +kernel
theorem dX8_readClass_194 : decode cX8_readClass 194 = .ok (.iconst 0, 1) := by decide +kernel
theorem dX8_readClass_195 : decode cX8_readClass 195 = .ok (.istore 4, 2) := by decide +kernel
theorem dX8_readClass_197 : decode cX8_readClass 197 = .ok (.iload 4, 2) := by decide +kernel
theorem dX8_readClass_199 : decode cX8_readClass 199 = .ok (.bipush 16, 2) := by decide +kernel
theorem dX8_readClass_201 : decode cX8_readClass 201 = .ok (.if_icmp .ge 54, 3) := by decide +kernel
theorem dX8_readClass_204 : decode cX8_readClass 204 = .ok (.aload_n 0, 1) := by decide +kernel
theorem dX8_readClass_205 : decode cX8_readClass 205 = .ok (.getfield 29, 3) := by decide +kernel
theorem dX8_readClass_208 : decode cX8_readClass 208 = .ok (.bipush 16, 2) := by decide +kernel
theorem dX8_readClass_210 : decode cX8_readClass 210 = .ok (.iload_n 1, 1) := by decide +kernel
theorem dX8_readClass_211 : decode cX8_readClass 211 = .ok (.imul, 1) := by decide +kernel
theorem dX8_readClass_212 : decode cX8_readClass 212 = .ok (.iload 4, 2) := by decide +kernel
theorem dX8_readClass_214 : decode cX8_readClass 214 = .ok (.iadd, 1) := by decide +kernel
theorem dX8_readClass_215 : decode cX8_readClass 215 = .ok (.iload_n 2, 1) := by decide +kernel
theorem dX8_readClass_216 : decode cX8_readClass 216 = .ok (.ifCond .ge 7, 3) := by decide +kernel
theorem dX8_readClass_219 : decode cX8_readClass 219 = .ok (.iconst (-1), 1) := by decide +kernel
theorem dX8_readClass_220 : decode cX8_readClass 220 = .ok (.goto 15, 3) := by decide +kernel
theorem dX8_readClass_223 : decode cX8_readClass 223 = .ok (.aload_n 0, 1) := by decide +kernel
theorem dX8_readClass_224 : decode cX8_readClass 224 = .ok (.getfield 29, 3) := by decide +kernel
theorem dX8_readClass_227 : decode cX8_readClass 227 = .ok (.bipush 16, 2) := by decide +kernel
theorem dX8_readClass_229 : decode cX8_readClass 229 = .ok (.iload_n 2, 1) := by decide +kernel
theorem dX8_readClass_230 : decode cX8_readClass 230 = .ok (.imul, 1) := by decide +kernel
theorem dX8_readClass_231 : decode cX8_readClass 231 = .ok (.iload 4, 2) := by decide +kernel
theorem dX8_readClass_233 : decode cX8_readClass 233 = .ok (.iadd, 1) := by decide +kernel
theorem dX8_readClass_234 : decode cX8_readClass 234 = .ok (.iaload, 1) := by decide +kernel
theorem dX8_readClass_235 : decode cX8_readClass 235 = .ok (.iastore, 1) := by decide +kernel
theorem dX8_readClass_236 : decode cX8_readClass 236 = .ok (.aload_n 0, 1) := by decide +kernel
theorem dX8_readClass_237 : decode cX8_readClass 237 = .ok (.getfield 32, 3) := by decide +kernel
theorem dX8_readClass_240 : decode cX8_readClass 240 = .ok (.bipush 16, 2) := by decide +kernel
theorem dX8_readClass_242 : decode cX8_readClass 242 = .ok (.iload_n 1, 1) := by decide +kernel
theorem dX8_readClass_243 : decode cX8_readClass 243 = .ok (.imul, 1) := by decide +kernel
theorem dX8_readClass_244 : decode cX8_readClass 244 = .ok (.iload 4, 2) := by decide +kernel
theorem dX8_readClass_246 : decode cX8_readClass 246 = .ok (.iadd, 1) := by decide +kernel
theorem dX8_readClass_247 : decode cX8_readClass 247 = .ok (.iconst (-1), 1) := by decide +kernel
theorem dX8_readClass_248 : decode cX8_readClass 248 = .ok (.iastore, 1) := by decide +kernel
theorem dX8_readClass_249 : decode cX8_readClass 249 = .ok (.iinc 4 1, 3) := by decide +kernel
theorem dX8_readClass_252 : decode cX8_readClass 252 = .ok (.goto (-55), 3) := by decide +kernel
theorem dX8_readClass_255 : decode cX8_readClass 255 = .ok (.aload_n 0, 1) := by decide +kernel
theorem dX8_readClass_256 : decode cX8_readClass 256 = .ok (.iconst 0, 1) := by decide +kernel
theorem dX8_readClass_257 : decode cX8_readClass 257 = .ok (.bipush 16, 2) := by decide +kernel
theorem dX8_readClass_259 : decode cX8_readClass 259 = .ok (.invokevirtual 92, 3) := by decide +kernel
theorem dX8_readClass_262 : decode cX8_readClass 262 = .ok (.ifCond .ne 5, 3) := by decide +kernel
theorem dX8_readClass_265 : decode cX8_readClass 265 = .ok (.iconst 0, 1) := by decide +kernel
theorem dX8_readClass_266 : decode cX8_readClass 266 = .ok (.ireturn, 1) := by decide +kernel
theorem dX8_readClass_267 : decode cX8_readClass 267 = .ok (.aload_n 0, 1) := by decide +kernel
theorem dX8_readClass_268 : decode cX8_readClass 268 = .ok (.invokevirtual 96, 3) := by decide +kernel
theorem dX8_readClass_271 : decode cX8_readClass 271 = .ok (.istore 4, 2) := by decide +kernel
theorem dX8_readClass_273 : decode cX8_readClass 273 = .ok (.iconst 0, 1) := by decide +kernel
theorem dX8_readClass_274 : decode cX8_readClass 274 = .ok (.istore 5, 2) := by decide +kernel
theorem dX8_readClass_276 : decode cX8_readClass 276 = .ok (.iconst 0, 1) := by decide +kernel
theorem dX8_readClass_277 : decode cX8_readClass 277 = .ok (.istore 6, 2) := by decide +kernel
theorem dX8_readClass_279 : decode cX8_readClass 279 = .ok (.iload 6, 2) := by decide +kernel
theorem dX8_readClass_281 : decode cX8_readClass 281 = .ok (.iload 4, 2) := by decide +kernel
theorem dX8_readClass_283 : decode cX8_readClass 283 = .ok (.if_icmp .ge 81, 3) := by decide +kernel
theorem dX8_readClass_286 : decode cX8_readClass 286 = .ok (.aload_n 0, 1) := by decide +kernel
theorem dX8_readClass_287 : decode cX8_readClass 287 = .ok (.iload 5, 2) := by decide +kernel
theorem dX8_readClass_289 : decode cX8_readClass 289 = .ok (.bipush 15, 2) := by decide +kernel
theorem dX8_readClass_291 : decode cX8_readClass 291 = .ok (.invokevirtual 92, 3) := by decide +kernel
theorem dX8_readClass_294 : decode cX8_readClass 294 = .ok (.ifCond .ne 5, 3) := by decide +kernel
theorem dX8_readClass_297 : decode cX8_readClass 297 = .ok (.iconst 0, 1) := by decide +kernel
theorem dX8_readClass_298 : decode cX8_readClass 298 = .ok (.ireturn, 1) := by decide +kernel
theorem dX8_readClass_299 : decode cX8_readClass 299 = .ok (.aload_n 0, 1) := by decide +kernel
theorem dX8_readClass_300 : decode cX8_readClass 300 = .ok (.invokevirtual 96, 3) := by decide +kernel
theorem dX8_readClass_303 : decode cX8_readClass 303 = .ok (.istore 7, 2) := by decide +kernel
theorem dX8_readClass_305 : decode cX8_readClass 305 = .ok (.iload 7, 2) := by decide +kernel
theorem dX8_readClass_307 : decode cX8_readClass 307 = .ok (.iconst 1, 1) := by decide +kernel
theorem dX8_readClass_308 : decode cX8_readClass 308 = .ok (.iadd, 1) := by decide +kernel
theorem dX8_readClass_309 : decode cX8_readClass 309 = .ok (.istore 5, 2) := by decide +kernel
theorem dX8_readClass_311 : decode cX8_readClass 311 = .ok (.aload_n 0, 1) := by decide +kernel
theorem dX8_readClass_312 : decode cX8_readClass 312 = .ok (.iconst 0, 1) := by decide +kernel
theorem dX8_readClass_313 : decode cX8_readClass 313 = .ok (.sipush 255, 3) := by decide +kernel
theorem dX8_readClass_316 : decode cX8_readClass 316 = .ok (.invokevirtual 92, 3) := by decide +kernel
theorem dX8_readClass_319 : decode cX8_readClass 319 = .ok (.ifCond .ne 5, 3) := by decide +kernel
theorem dX8_readClass_322 : decode cX8_readClass 322 = .ok (.iconst 0, 1) := by decide +kernel
theorem dX8_readClass_323 : decode cX8_readClass 323 = .ok (.ireturn, 1) := by decide +kernel
theorem dX8_readClass_324 : decode cX8_readClass 324 = .ok (.aload_n 0, 1) := by decide +kernel
theorem dX8_readClass_325 : decode cX8_readClass 325 = .ok (.getfield 29, 3) := by decide +kernel
theorem dX8_readClass_328 : decode cX8_readClass 328 = .ok (.bipush 16, 2) := by decide +kernel
theorem dX8_readClass_330 : decode cX8_readClass 330 = .ok (.iload_n 1, 1) := by decide +kernel
theorem dX8_readClass_331 : decode cX8_readClass 331 = .ok (.imul, 1) := by decide +kernel
theorem dX8_readClass_332 : decode cX8_readClass 332 = .ok (.iload 7, 2) := by decide +kernel
theorem dX8_readClass_334 : decode cX8_readClass 334 = .ok (.iadd, 1) := by decide +kernel
theorem dX8_readClass_335 : decode cX8_readClass 335 = .ok (.aload_n 0, 1) := by decide +kernel
theorem dX8_readClass_336 : decode cX8_readClass 336 = .ok (.invokevirtual 96, 3) := by decide +kernel
theorem dX8_readClass_339 : decode cX8_readClass 339 = .ok (.iastore, 1) := by decide +kernel
theorem dX8_readClass_340 : decode cX8_readClass 340 = .ok (.aload_n 0, 1) := by decide +kernel
theorem dX8_readClass_341 : decode cX8_readClass 341 = .ok (.getfield 32, 3) := by decide +kernel
theorem dX8_readClass_344 : decode cX8_readClass 344 = .ok (.bipush 16, 2) := by decide +kernel
theorem dX8_readClass_346 : decode cX8_readClass 346 = .ok (.iload_n 1, 1) := by decide +kernel
theorem dX8_readClass_347 : decode cX8_readClass 347 = .ok (.imul, 1) := by decide +kernel
theorem dX8_readClass_348 : decode cX8_readClass 348 = .ok (.iload 7, 2) := by decide +kernel
theorem dX8_readClass_350 : decode cX8_readClass 350 = .ok (.iadd, 1) := by decide +kernel
theorem dX8_readClass_351 : decode cX8_readClass 351 = .ok (.aload_n 0, 1) := by decide +kernel
theorem dX8_readClass_352 : decode cX8_readClass 352 = .ok (.getfield 75, 3) := by decide +kernel
theorem dX8_readClass_355 : decode cX8_readClass 355 = .ok (.iconst 1, 1) := by decide +kernel
theorem dX8_readClass_356 : decode cX8_readClass 356 = .ok (.isub, 1) := by decide +kernel
theorem dX8_readClass_357 : decode cX8_readClass 357 = .ok (.iastore, 1) := by decide +kernel
theorem dX8_readClass_358 : decode cX8_readClass 358 = .ok (.iinc 6 1, 3) := by decide +kernel
theorem dX8_readClass_361 : decode cX8_readClass 361 = .ok (.goto (-82), 3) := by decide +kernel
theorem dX8_readClass_364 : decode cX8_readClass 364 = .ok (.iconst 1, 1) := by decide +kernel
theorem dX8_readClass_365 : decode cX8_readClass 365 = .ok (.ireturn, 1) := by decide +kernel
set_option maxRecDepth 20000 in
theorem ggX8_readMethod_X8_here : GoodIn wsX8_readMethod wsX8_here := goodIn_r _ [17, 2, 18, 19, 56, 57, 58, 59, 60, 61, 62, 63, 64, 65, 66, 67, 68, 69, 70, 71, 72, 73, 74, 75, 76, 77, 78, 79, 80, 81, 82, 83] (by decide +kernel) (by decide +kernel)
set_option maxRecDepth 20000 in
theorem gX8_readMethod_X8_here : GoodIn wsX8_readMethod (wsV RX8 81 RX8 yX8_here wsX8_here) := goodIn_app (goodIn_of _ (by decide +kernel)) ggX8_readMethod_X8_here
set_option maxRecDepth 20000 in
theorem ggX8_readMethod_X8_bad : GoodIn wsX8_readMethod wsX8_bad := goodIn_r _ [23, 24, 56, 57, 58, 59, 60, 61, 62, 63, 64, 65, 66, 67, 68, 69, 70, 71, 72, 73, 74, 75, 76, 77, 78, 79, 80, 81, 82, 83] (by decide +kernel) (by decide +kernel)
set_option maxRecDepth 20000 in
theorem gX8_readMethod_X8_bad : GoodIn wsX8_readMethod (wsV RX8 85 RX8 yX8_bad wsX8_bad) := goodIn_app (goodIn_of _ (by decide +kernel)) ggX8_readMethod_X8_bad
set_option maxRecDepth 20000 in
theorem ggX8_readMethod_X8_over : GoodIn wsX8_readMethod wsX8_over := goodIn_r _ [28, 2, 13, 14, 15, 16, 17, 18, 19, 20, 21, 22, 23, 24, 56, 57, 58, 59, 60, 61, 62, 63, 64, 65, 66, 67, 68, 69, 70, 71, 72, 73, 74, 75, 76, 77, 78, 79, 80, 81, 82, 83] (by decide +kernel) (by decide +kernel)
set_option maxRecDepth 20000 in
theorem gX8_readMethod_X8_over : GoodIn wsX8_readMethod (wsV RX8 92 RX8 yX8_over wsX8_over) := goodIn_app (goodIn_of _ (by decide +kernel)) ggX8_readMethod_X8_over
set_option maxRecDepth 20000 in
theorem ggX8_readMethod_X8_last : GoodIn wsX8_readMethod wsX8_last := goodIn_r _ [32, 19, 2, 56, 57, 58, 59, 60, 61, 62, 63, 64, 65, 66, 67, 68, 69, 70, 71, 72, 73, 74, 75, 76, 77, 78, 79, 80, 81, 82, 83] (by decide +kernel) (by decide +kernel)
set_option maxRecDepth 20000 in
theorem gX8_readMethod_X8_last : GoodIn wsX8_readMethod (wsV RX8 96 RX8 yX8_last wsX8_last) := goodIn_app (goodIn_of _ (by decide +kernel)) ggX8_readMethod_X8_last
set_option maxRecDepth 20000 in
theorem ggX8_readMethod_X8_overType : GoodIn wsX8_readMethod wsX8_overType := goodIn_r _ [36, 1, 2, 13, 14, 15, 16, 17, 18, 19, 20, 21, 22, 23, 24, 56, 57, 58, 59, 60, 61, 62, 63, 64, 65, 66, 67, 68, 69, 70, 71, 72, 73, 74, 75, 76, 77, 78, 79, 80, 81, 82, 83] (by decide +kernel) (by decide +kernel)
set_option maxRecDepth 20000 in
theorem gX8_readMethod_X8_overType : GoodIn wsX8_readMethod (wsV RX8 99 RX8 yX8_overType wsX8_overType) := goodIn_app (goodIn_of _ (by decide +kernel)) ggX8_readMethod_X8_overType
set_option maxRecDepth 20000 in
theorem ggX8_readMethod_X8_two : GoodIn wsX8_readMethod wsX8_two := goodIn_r _ [40, 19, 56, 57, 58, 59, 60, 61, 62, 63, 64, 65, 66, 67, 68, 69, 70, 71, 72, 73, 74, 75, 76, 77, 78, 79, 80, 81, 82, 83] (by decide +kernel) (by decide +kernel)
set_option maxRecDepth 20000 in
theorem gX8_readMethod_X8_two : GoodIn wsX8_readMethod (wsV RX8 103 RX8 yX8_two wsX8_two) := goodIn_app (goodIn_of _ (by decide +kernel)) ggX8_readMethod_X8_two
set_option maxRecDepth 20000 in
theorem ggX8_readMethod_X8_readInstruction : GoodIn wsX8_readMethod wsX8_readInstruction := goodIn_r _ [44, 2, 7, 45, 1, 46, 47, 48, 25, 26, 27, 16, 28, 13, 14, 15, 17, 18, 19, 20, 21, 22, 23, 24, 29, 30, 31, 32, 49, 50, 51, 52, 53, 54, 55, 56, 57, 58, 59, 60, 61, 62, 63, 64, 65, 66, 67, 68, 69, 70, 71, 72, 73, 74, 75, 76, 77, 78, 79, 80, 81, 82, 83] (by decide +kernel) (by decide +kernel)
set_option maxRecDepth 20000 in
theorem gX8_readMethod_X8_readInstruction : GoodIn wsX8_readMethod (wsV RX8 107 RX8 yX8_readInstruction wsX8_readInstruction) := goodIn_app (goodIn_of _ (by decide +kernel)) ggX8_readMethod_X8_readInstruction
set_option maxRecDepth 20000 in
theorem ggX8_readMethod_X8_overClass : GoodIn wsX8_readMethod wsX8_overClass := goodIn_r _ [55, 1, 25, 26, 27, 16, 28, 2, 13, 14, 15, 17, 18, 19, 20, 21, 22, 23, 24, 56, 57, 58, 59, 60, 61, 62, 63, 64, 65, 66, 67, 68, 69, 70, 71, 72, 73, 74, 75, 76, 77, 78, 79, 80, 81, 82, 83] (by decide +kernel) (by decide +kernel)
set_option maxRecDepth 20000 in
theorem gX8_readMethod_X8_overClass : GoodIn wsX8_readMethod (wsV RX8 110 RX8 yX8_overClass wsX8_overClass) := goodIn_app (goodIn_of _ (by decide +kernel)) ggX8_readMethod_X8_overClass
theorem dX8_readMethod_0 : decode cX8_readMethod 0 = .ok (.aload_n 0, 1) := by decide +kernel
theorem dX8_readMethod_1 : decode cX8_readMethod 1 = .ok (.invokevirtual 81, 3) := by decide +kernel
theorem dX8_readMethod_4 : decode cX8_readMethod 4 = .ok (.sipush 255, 3) := by decide +kernel
theorem dX8_readMethod_7 : decode cX8_readMethod 7 = .ok (.if_icmp .eq 23, 3) := by decide +kernel
theorem dX8_readMethod_10 : decode cX8_readMethod 10 = .ok (.aload_n 0, 1) := by decide +kernel
theorem dX8_readMethod_11 : decode cX8_readMethod 11 = .ok (.invokevirtual 81, 3) := by decide +kernel
theorem dX8_readMethod_14 : decode cX8_readMethod 14 = .ok (.aload_n 0, 1) := by decide +kernel
theorem dX8_readMethod_15 : decode cX8_readMethod 15 = .ok (.getfield 89, 3) := by decide +kernel
theorem dX8_readMethod_18 : decode cX8_readMethod 18 = .ok (.if_icmp .lt 12, 3) := by decide +kernel
theorem dX8_readMethod_21 : decode cX8_readMethod 21 = .ok (.aload_n 0, 1) := by decide +kernel
theorem dX8_readMethod_22 : decode cX8_readMethod 22 = .ok (.aload_n 0, 1) := by decide +kernel
theorem dX8_readMethod_23 : decode cX8_readMethod 23 = .ok (.getfield 75, 3) := by decide +kernel
theorem dX8_readMethod_26 : decode cX8_readMethod 26 = .ok (.invokevirtual 85, 3) := by decide +kernel
theorem dX8_readMethod_29 : decode cX8_readMethod 29 = .ok (.ireturn, 1) := by decide +kernel
theorem dX8_readMethod_30 : decode cX8_readMethod 30 = .ok (.aload_n 0, 1) := by decide +kernel
theorem dX8_readMethod_31 : decode cX8_readMethod 31 = .ok (.getfield 38, 3) := by decide +kernel
theorem dX8_readMethod_34 : decode cX8_readMethod 34 = .ok (.iload_n 1, 1) := by decide +kernel
theorem dX8_readMethod_35 : decode cX8_readMethod 35 = .ok (.aload_n 0, 1) := by decide +kernel
theorem dX8_readMethod_36 : decode cX8_readMethod 36 = .ok (.invokevirtual 81, 3) := by decide +kernel
theorem dX8_readMethod_39 : decode cX8_readMethod 39 = .ok (.sipush 255, 3) := by decide +kernel
theorem dX8_readMethod_42 : decode cX8_readMethod 42 = .ok (.if_icmp .ne 7, 3) := by decide +kernel
theorem dX8_readMethod_45 : decode cX8_readMethod 45 = .ok (.iconst (-1), 1) := by decide +kernel
theorem dX8_readMethod_46 : decode cX8_readMethod 46 = .ok (.goto 7, 3) := by decide +kernel
theorem dX8_readMethod_49 : decode cX8_readMethod 49 = .ok (.aload_n 0, 1) := by decide +kernel
theorem dX8_readMethod_50 : decode cX8_readMethod 50 = .ok (.invokevirtual 81, 3) := by decide +kernel
theorem dX8_readMethod_53 : decode cX8_readMethod 53 = .ok (.iastore, 1) := by decide +kernel
theorem dX8_readMethod_54 : decode cX8_readMethod 54 = .ok (.aload_n 0, 1) := by decide +kernel
theorem dX8_readMethod_55 : decode cX8_readMethod 55 = .ok (.dup, 1) := by decide +kernel
theorem dX8_readMethod_56 : decode cX8_readMethod 56 = .ok (.getfield 75, 3) := by decide +kernel
theorem dX8_readMethod_59 : decode cX8_readMethod 59 = .ok (.iconst 1, 1) := by decide +kernel
theorem dX8_readMethod_60 : decode cX8_readMethod 60 = .ok (.iadd, 1) := by decide +kernel
theorem dX8_readMethod_61 : decode cX8_readMethod 61 = .ok (.putfield 75, 3) := by decide +kernel
theorem dX8_readMethod_64 : decode cX8_readMethod 64 = .ok (.aload_n 0, 1) := by decide +kernel
theorem dX8_readMethod_65 : decode cX8_readMethod 65 = .ok (.iconst 0, 1) := by decide +kernel
theorem dX8_readMethod_66 : decode cX8_readMethod 66 = .ok (.bipush 7, 2) := by decide +kernel
theorem dX8_readMethod_68 : decode cX8_readMethod 68 = .ok (.invokevirtual 92, 3) := by decide +kernel
theorem dX8_readMethod_71 : decode cX8_readMethod 71 = .ok (.ifCond .ne 5, 3) := by decide +kernel
theorem dX8_readMethod_74 : decode cX8_readMethod 74 = .ok (.iconst 0, 1) := by decide +kernel
theorem dX8_readMethod_75 : decode cX8_readMethod 75 = .ok (.ireturn, 1) := by decide +kernel
theorem dX8_readMethod_76 : decode cX8_readMethod 76 = .ok (.aload_n 0, 1) := by decide +kernel
theorem dX8_readMethod_77 : decode cX8_readMethod 77 = .ok (.invokevirtual 96, 3) := by decide +kernel
theorem dX8_readMethod_80 : decode cX8_readMethod 80 = .ok (.istore_n 2, 1) := by decide +kernel
theorem dX8_readMethod_81 : decode cX8_readMethod 81 = .ok (.iconst 0, 1) := by decide +kernel
theorem dX8_readMethod_82 : decode cX8_readMethod 82 = .ok (.istore_n 3, 1) := by decide +kernel
theorem dX8_readMethod_83 : decode cX8_readMethod 83 = .ok (.aload_n 0, 1) := by decide +kernel
theorem dX8_readMethod_84 : decode cX8_readMethod 84 = .ok (.getfield 38, 3) := by decide +kernel
theorem dX8_readMethod_87 : decode cX8_readMethod 87 = .ok (.iload_n 1, 1) := by decide +kernel
theorem dX8_readMethod_88 : decode cX8_readMethod 88 = .ok (.iaload, 1) := by decide +kernel
theorem dX8_readMethod_89 : decode cX8_readMethod 89 = .ok (.ifCond .lt 22, 3) := by decide +kernel
theorem dX8_readMethod_92 : decode cX8_readMethod 92 = .ok (.aload_n 0, 1) := by decide +kernel
theorem dX8_readMethod_93 : decode cX8_readMethod 93 = .ok (.getfield 44, 3) := by decide +kernel
theorem dX8_readMethod_96 : decode cX8_readMethod 96 = .ok (.bipush 8, 2) := by decide +kernel
theorem dX8_readMethod_98 : decode cX8_readMethod 98 = .ok (.iload_n 1, 1) := by decide +kernel
theorem dX8_readMethod_99 : decode cX8_readMethod 99 = .ok (.imul, 1) := by decide +kernel
theorem dX8_readMethod_100 : decode cX8_readMethod 100 = .ok (.iconst 1, 1) := by decide +kernel
theorem dX8_readMethod_101 : decode cX8_readMethod 101 = .ok (.aload_n 0, 1) := by decide +kernel
theorem dX8_readMethod_102 : decode cX8_readMethod 102 = .ok (.getfield 38, 3) := by decide +kernel
theorem dX8_readMethod_105 : decode cX8_readMethod 105 = .ok (.iload_n 1, 1) := by decide +kernel
theorem dX8_readMethod_106 : decode cX8_readMethod 106 = .ok (.iaload, 1) := by decide +kernel
theorem dX8_readMethod_107 : decode cX8_readMethod 107 = .ok (.iadd, 1) := by decide +kernel
theorem dX8_readMethod_108 : decode cX8_readMethod 108 = .ok (.iastore, 1) := by decide +kernel
theorem dX8_readMethod_109 : decode cX8_readMethod 109 = .ok (.iconst 1, 1) := by decide +kernel
theorem dX8_readMethod_110 : decode cX8_readMethod 110 = .ok (.istore_n 3, 1) := by decide +kernel
theorem dX8_readMethod_111 : decode cX8_readMethod 111 = .ok (.iconst 0, 1) := by decide +kernel
theorem dX8_readMethod_112 : decode cX8_readMethod 112 = .ok (.istore 4, 2) := by decide +kernel
theorem dX8_readMethod_114 : decode cX8_readMethod 114 = .ok (.iload 4, 2) := by decide +kernel
theorem dX8_readMethod_116 : decode cX8_readMethod 116 = .ok (.iload_n 2, 1) := by decide +kernel
theorem dX8_readMethod_117 : decode cX8_readMethod 117 = .ok (.if_icmp .ge 37, 3) := by decide +kernel
theorem dX8_readMethod_120 : decode cX8_readMethod 120 = .ok (.aload_n 0, 1) := by decide +kernel
theorem dX8_readMethod_121 : decode cX8_readMethod 121 = .ok (.iconst 0, 1) := by decide +kernel
theorem dX8_readMethod_122 : decode cX8_readMethod 122 = .ok (.invokevirtual 99, 3) := by decide +kernel
theorem dX8_readMethod_125 : decode cX8_readMethod 125 = .ok (.ifCond .ne 5, 3) := by decide +kernel
theorem dX8_readMethod_128 : decode cX8_readMethod 128 = .ok (.iconst 0, 1) := by decide +kernel
theorem dX8_readMethod_129 : decode cX8_readMethod 129 = .ok (.ireturn, 1) := by decide +kernel
theorem dX8_readMethod_130 : decode cX8_readMethod 130 = .ok (.aload_n 0, 1) := by decide +kernel
theorem dX8_readMethod_131 : decode cX8_readMethod 131 = .ok (.getfield 44, 3) := by decide +kernel
theorem dX8_readMethod_134 : decode cX8_readMethod 134 = .ok (.bipush 8, 2) := by decide +kernel
theorem dX8_readMethod_136 : decode cX8_readMethod 136 = .ok (.iload_n 1, 1) := by decide +kernel
theorem dX8_readMethod_137 : decode cX8_readMethod 137 = .ok (.imul, 1) := by decide +kernel
theorem dX8_readMethod_138 : decode cX8_readMethod 138 = .ok (.iload_n 3, 1) := by decide +kernel
theorem dX8_readMethod_139 : decode cX8_readMethod 139 = .ok (.iadd, 1) := by decide +kernel
theorem dX8_readMethod_140 : decode cX8_readMethod 140 = .ok (.aload_n 0, 1) := by decide +kernel
theorem dX8_readMethod_141 : decode cX8_readMethod 141 = .ok (.invokevirtual 96, 3) := by decide +kernel
theorem dX8_readMethod_144 : decode cX8_readMethod 144 = .ok (.iastore, 1) := by decide +kernel
theorem dX8_readMethod_145 : decode cX8_readMethod 145 = .ok (.iinc 3 1, 3) := by decide +kernel
theorem dX8_readMethod_148 : decode cX8_readMethod 148 = .ok (.iinc 4 1, 3) := by decide +kernel
theorem dX8_readMethod_151 : decode cX8_readMethod 151 = .ok (.goto (-37), 3) := by decide +kernel
theorem dX8_readMethod_154 : decode cX8_readMethod 154 = .ok (.aload_n 0, 1) := by decide +kernel
theorem dX8_readMethod_155 : decode cX8_readMethod 155 = .ok (.getfield 41, 3) := by decide +kernel
theorem dX8_readMethod_158 : decode cX8_readMethod 158 = .ok (.iload_n 1, 1) := by decide +kernel
theorem dX8_readMethod_159 : decode cX8_readMethod 159 = .ok (.iload_n 3, 1) := by decide +kernel
theorem dX8_readMethod_160 : decode cX8_readMethod 160 = .ok (.iastore, 1) := by decide +kernel
theorem dX8_readMethod_161 : decode cX8_readMethod 161 = .ok (.aload_n 0, 1) := by decide +kernel
theorem dX8_readMethod_162 : decode cX8_readMethod 162 = .ok (.iconst 1, 1) := by decide +kernel
theorem dX8_readMethod_163 : decode cX8_readMethod 163 = .ok (.invokevirtual 99, 3) := by decide +kernel
theorem dX8_readMethod_166 : decode cX8_readMethod 166 = .ok (.ifCond .ne 5, 3) := by decide +kernel
theorem dX8_readMethod_169 : decode cX8_readMethod 169 = .ok (.iconst 0, 1) := by decide +kernel
theorem dX8_readMethod_170 : decode cX8_readMethod 170 = .ok (.ireturn, 1) := by decide +kernel
theorem dX8_readMethod_171 : decode cX8_readMethod 171 = .ok (.aload_n 0, 1) := by decide +kernel
theorem dX8_readMethod_172 : decode cX8_readMethod 172 = .ok (.getfield 47, 3) := by decide +kernel
theorem dX8_readMethod_175 : decode cX8_readMethod 175 = .ok (.iload_n 1, 1) := by decide +kernel
theorem dX8_readMethod_176 : decode cX8_readMethod 176 = .ok (.aload_n 0, 1) := by decide +kernel
theorem dX8_readMethod_177 : decode cX8_readMethod 177 = .ok (.invokevirtual 96, 3) := by decide +kernel
theorem dX8_readMethod_180 : decode cX8_readMethod 180 = .ok (.sipush 255, 3) := by decide +kernel
theorem dX8_readMethod_183 : decode cX8_readMethod 183 = .ok (.if_icmp .ne 7, 3) := by decide +kernel
theorem dX8_readMethod_186 : decode cX8_readMethod 186 = .ok (.iconst (-1), 1) := by decide +kernel
theorem dX8_readMethod_187 : decode cX8_readMethod 187 = .ok (.goto 7, 3) := by decide +kernel
theorem dX8_readMethod_190 : decode cX8_readMethod 190 = .ok (.aload_n 0, 1) := by decide +kernel
theorem dX8_readMethod_191 : decode cX8_readMethod 191 = .ok (.invokevirtual 96, 3) := by decide +kernel
theorem dX8_readMethod_194 : decode cX8_readMethod 194 = .ok (.iastore, 1) := by decide +kernel
theorem dX8_readMethod_195 : decode cX8_readMethod 195 = .ok (.aload_n 0, 1) := by decide +kernel
theorem dX8_readMethod_196 : decode cX8_readMethod 196 = .ok (.iload_n 3, 1) := by decide +kernel
theorem dX8_readMethod_197 : decode cX8_readMethod 197 = .ok (.bipush 12, 2) := by decide +kernel
theorem dX8_readMethod_199 : decode cX8_readMethod 199 = .ok (.invokevirtual 92, 3) := by decide +kernel
theorem dX8_readMethod_202 : decode cX8_readMethod 202 = .ok (.ifCond .ne 5, 3) := by decide +kernel
theorem dX8_readMethod_205 : decode cX8_readMethod 205 = .ok (.iconst 0, 1) := by decide +kernel
theorem dX8_readMethod_206 : decode cX8_readMethod 206 = .ok (.ireturn, 1) := by decide +kernel
theorem dX8_readMethod_207 : decode cX8_readMethod 207 = .ok (.aload_n 0, 1) := by decide +kernel
theorem dX8_readMethod_208 : decode cX8_readMethod 208 = .ok (.getfield 50, 3) := by decide +kernel
theorem dX8_readMethod_211 : decode cX8_readMethod 211 = .ok (.iload_n 1, 1) := by decide +kernel
theorem dX8_readMethod_212 : decode cX8_readMethod 212 = .ok (.aload_n 0, 1) := by decide +kernel
theorem dX8_readMethod_213 : decode cX8_readMethod 213 = .ok (.invokevirtual 96, 3) := by decide +kernel
theorem dX8_readMethod_216 : decode cX8_readMethod 216 = .ok (.iastore, 1) := by decide +kernel
theorem dX8_readMethod_217 : decode cX8_readMethod 217 = .ok (.aload_n 0, 1) := by decide +kernel
theorem dX8_readMethod_218 : decode cX8_readMethod 218 = .ok (.iconst 0, 1) := by decide +kernel
theorem dX8_readMethod_219 : decode cX8_readMethod 219 = .ok (.bipush 12, 2) := by decide +kernel
theorem dX8_readMethod_221 : decode cX8_readMethod 221 = .ok (.aload_n 0, 1) := by decide +kernel
theorem dX8_readMethod_222 : decode cX8_readMethod 222 = .ok (.getfield 50, 3) := by decide +kernel
theorem dX8_readMethod_225 : decode cX8_readMethod 225 = .ok (.iload_n 1, 1) := by decide +kernel
theorem dX8_readMethod_226 : decode cX8_readMethod 226 = .ok (.iaload, 1) := by decide +kernel
theorem dX8_readMethod_227 : decode cX8_readMethod 227 = .ok (.isub, 1) := by decide +kernel
theorem dX8_readMethod_228 : decode cX8_readMethod 228 = .ok (.invokevirtual 92, 3) := by decide +kernel
theorem dX8_readMethod_231 : decode cX8_readMethod 231 = .ok (.ifCond .ne 5, 3) := by decide +kernel
theorem dX8_readMethod_234 : decode cX8_readMethod 234 = .ok (.iconst 0, 1) := by decide +kernel
theorem dX8_readMethod_235 : decode cX8_readMethod 235 = .ok (.ireturn, 1) := by decide +kernel
theorem dX8_readMethod_236 : decode cX8_readMethod 236 = .ok (.aload_n 0, 1) := by decide +kernel
theorem dX8_readMethod_237 : decode cX8_readMethod 237 = .ok (.getfield 53, 3) := by decide +kernel
theorem dX8_readMethod_240 : decode cX8_readMethod 240 = .ok (.iload_n 1, 1) := by decide +kernel
theorem dX8_readMethod_241 : decode cX8_readMethod 241 = .ok (.aload_n 0, 1) := by decide +kernel
theorem dX8_readMethod_242 : decode cX8_readMethod 242 = .ok (.invokevirtual 96, 3) := by decide +kernel
theorem dX8_readMethod_245 : decode cX8_readMethod 245 = .ok (.iastore, 1) := by decide +kernel
theorem dX8_readMethod_246 : decode cX8_readMethod 246 = .ok (.aload_n 0, 1) := by decide +kernel
theorem dX8_readMethod_247 : decode cX8_readMethod 247 = .ok (.iconst 0, 1) := by decide +kernel
theorem dX8_readMethod_248 : decode cX8_readMethod 248 = .ok (.iconst 3, 1) := by decide +kernel
theorem dX8_readMethod_249 : decode cX8_readMethod 249 = .ok (.invokevirtual 92, 3) := by decide +kernel
theorem dX8_readMethod_252 : decode cX8_readMethod 252 = .ok (.ifCond .eq 39, 3) := by decide +kernel
theorem dX8_readMethod_255 : decode cX8_readMethod 255 = .ok (.aload_n 0, 1) := by decide +kernel
theorem dX8_readMethod_256 : decode cX8_readMethod 256 = .ok (.aload_n 0, 1) := by decide +kernel
theorem dX8_readMethod_257 : decode cX8_readMethod 257 = .ok (.invokevirtual 96, 3) := by decide +kernel
theorem dX8_readMethod_260 : decode cX8_readMethod 260 = .ok (.ifCond .ne 7, 3) := by decide +kernel
theorem dX8_readMethod_263 : decode cX8_readMethod 263 = .ok (.iconst 1, 1) := by decide +kernel
theorem dX8_readMethod_264 : decode cX8_readMethod 264 = .ok (.goto 4, 3) := by decide +kernel
theorem dX8_readMethod_267 : decode cX8_readMethod 267 = .ok (.iconst 0, 1) := by decide +kernel
theorem dX8_readMethod_268 : decode cX8_readMethod 268 = .ok (.aload_n 0, 1) := by decide +kernel
theorem dX8_readMethod_269 : decode cX8_readMethod 269 = .ok (.invokevirtual 96, 3) := by decide +kernel
theorem dX8_readMethod_272 : decode cX8_readMethod 272 = .ok (.iconst 3, 1) := by decide +kernel
theorem dX8_readMethod_273 : decode cX8_readMethod 273 = .ok (.if_icmp .ne 9, 3) := by decide +kernel
theorem dX8_readMethod_276 : decode cX8_readMethod 276 = .ok (.sipush 232, 3) := by decide +kernel
theorem dX8_readMethod_279 : decode cX8_readMethod 279 = .ok (.goto 6, 3) := by decide +kernel
theorem dX8_readMethod_282 : decode cX8_readMethod 282 = .ok (.sipush 255, 3) := by decide +kernel
theorem dX8_readMethod_285 : decode cX8_readMethod 285 = .ok (.invokevirtual 92, 3) := by decide +kernel
theorem dX8_readMethod_288 : decode cX8_readMethod 288 = .ok (.ifCond .ne 5, 3) := by decide +kernel
theorem dX8_readMethod_291 : decode cX8_readMethod 291 = .ok (.iconst 0, 1) := by decide +kernel
theorem dX8_readMethod_292 : decode cX8_readMethod 292 = .ok (.ireturn, 1) := by decide +kernel
theorem dX8_readMethod_293 : decode cX8_readMethod 293 = .ok (.aload_n 0, 1) := by decide +kernel
theorem dX8_readMethod_294 : decode cX8_readMethod 294 = .ok (.getfield 59, 3) := by decide +kernel
theorem dX8_readMethod_297 : decode cX8_readMethod 297 = .ok (.iload_n 1, 1) := by decide +kernel
theorem dX8_readMethod_298 : decode cX8_readMethod 298 = .ok (.aload_n 0, 1) := by decide +kernel
theorem dX8_readMethod_299 : decode cX8_readMethod 299 = .ok (.aload_n 0, 1) := by decide +kernel
theorem dX8_readMethod_300 : decode cX8_readMethod 300 = .ok (.getfield 75, 3) := by decide +kernel
theorem dX8_readMethod_303 : decode cX8_readMethod 303 = .ok (.iconst 2, 1) := by decide +kernel
theorem dX8_readMethod_304 : decode cX8_readMethod 304 = .ok (.isub, 1) := by decide +kernel
theorem dX8_readMethod_305 : decode cX8_readMethod 305 = .ok (.invokevirtual 103, 3) := by decide +kernel
theorem dX8_readMethod_308 : decode cX8_readMethod 308 = .ok (.iastore, 1) := by decide +kernel
theorem dX8_readMethod_309 : decode cX8_readMethod 309 = .ok (.aload_n 0, 1) := by decide +kernel
theorem dX8_readMethod_310 : decode cX8_readMethod 310 = .ok (.getfield 56, 3) := by decide +kernel
theorem dX8_readMethod_313 : decode cX8_readMethod 313 = .ok (.iload_n 1, 1) := by decide +kernel
theorem dX8_readMethod_314 : decode cX8_readMethod 314 = .ok (.aload_n 0, 1) := by decide +kernel
theorem dX8_readMethod_315 : decode cX8_readMethod 315 = .ok (.getfield 75, 3) := by decide +kernel
theorem dX8_readMethod_318 : decode cX8_readMethod 318 = .ok (.iastore, 1) := by decide +kernel
theorem dX8_readMethod_319 : decode cX8_readMethod 319 = .ok (.aload_n 0, 1) := by decide +kernel
theorem dX8_readMethod_320 : decode cX8_readMethod 320 = .ok (.getfield 75, 3) := by decide +kernel
theorem dX8_readMethod_323 : decode cX8_readMethod 323 = .ok (.aload_n 0, 1) := by decide +kernel
theorem dX8_readMethod_324 : decode cX8_readMethod 324 = .ok (.getfield 59, 3) := by decide +kernel
theorem dX8_readMethod_327 : decode cX8_readMethod 327 = .ok (.iload_n 1, 1) := by decide +kernel
theorem dX8_readMethod_328 : decode cX8_readMethod 328 = .ok (.iaload, 1) := by decide +kernel
theorem dX8_readMethod_329 : decode cX8_readMethod 329 = .ok (.iadd, 1) := by decide +kernel
theorem dX8_readMethod_330 : decode cX8_readMethod 330 = .ok (.istore 4, 2) := by decide +kernel
theorem dX8_readMethod_332 : decode cX8_readMethod 332 = .ok (.aload_n 0, 1) := by decide +kernel
theorem dX8_readMethod_333 : decode cX8_readMethod 333 = .ok (.getfield 75, 3) := by decide +kernel
theorem dX8_readMethod_336 : decode cX8_readMethod 336 = .ok (.iload 4, 2) := by decide +kernel
theorem dX8_readMethod_338 : decode cX8_readMethod 338 = .ok (.if_icmp .ge 15, 3) := by decide +kernel
theorem dX8_readMethod_341 : decode cX8_readMethod 341 = .ok (.aload_n 0, 1) := by decide +kernel
theorem dX8_readMethod_342 : decode cX8_readMethod 342 = .ok (.iload_n 1, 1) := by decide +kernel
theorem dX8_readMethod_343 : decode cX8_readMethod 343 = .ok (.iload 4, 2) := by decide +kernel
theorem dX8_readMethod_345 : decode cX8_readMethod 345 = .ok (.invokevirtual 107, 3) := by decide +kernel
theorem dX8_readMethod_348 : decode cX8_readMethod 348 = .ok (.ifCond .ne (-16), 3) := by decide +kernel
theorem dX8_readMethod_351 : decode cX8_readMethod 351 = .ok (.iconst 0, 1) := by decide +kernel
theorem dX8_readMethod_352 : decode cX8_readMethod 352 = .ok (.ireturn, 1) := by decide +kernel
theorem dX8_readMethod_353 : decode cX8_readMethod 353 = .ok (.aload_n 0, 1) := by decide +kernel
theorem dX8_readMethod_354 : decode cX8_readMethod 354 = .ok (.iconst 0, 1) := by decide +kernel
theorem dX8_readMethod_355 : decode cX8_readMethod 355 = .ok (.bipush 8, 2) := by decide +kernel
theorem dX8_readMethod_357 : decode cX8_readMethod 357 = .ok (.invokevirtual 92, 3) := by decide +kernel
theorem dX8_readMethod_360 : decode cX8_readMethod 360 = .ok (.ifCond .ne 5, 3) := by decide +kernel
theorem dX8_readMethod_363 : decode cX8_readMethod 363 = .ok (.iconst 0, 1) := by decide +kernel
theorem dX8_readMethod_364 : decode cX8_readMethod 364 = .ok (.ireturn, 1) := by decide +kernel
theorem dX8_readMethod_365 : decode cX8_readMethod 365 = .ok (.aload_n 0, 1) := by decide +kernel
theorem dX8_readMethod_366 : decode cX8_readMethod 366 = .ok (.getfield 62, 3) := by decide +kernel
theorem dX8_readMethod_369 : decode cX8_readMethod 369 = .ok (.iload_n 1, 1) := by decide +kernel
theorem dX8_readMethod_370 : decode cX8_readMethod 370 = .ok (.aload_n 0, 1) := by decide +kernel
theorem dX8_readMethod_371 : decode cX8_readMethod 371 = .ok (.invokevirtual 96, 3) := by decide +kernel
theorem dX8_readMethod_374 : decode cX8_readMethod 374 = .ok (.iastore, 1) := by decide +kernel
theorem dX8_readMethod_375 : decode cX8_readMethod 375 = .ok (.aload_n 0, 1) := by decide +kernel
theorem dX8_readMethod_376 : decode cX8_readMethod 376 = .ok (.getfield 65, 3) := by decide +kernel
theorem dX8_readMethod_379 : decode cX8_readMethod 379 = .ok (.iload_n 1, 1) := by decide +kernel
theorem dX8_readMethod_380 : decode cX8_readMethod 380 = .ok (.aload_n 0, 1) := by decide +kernel
theorem dX8_readMethod_381 : decode cX8_readMethod 381 = .ok (.getfield 75, 3) := by decide +kernel
theorem dX8_readMethod_384 : decode cX8_readMethod 384 = .ok (.iastore, 1) := by decide +kernel
theorem dX8_readMethod_385 : decode cX8_readMethod 385 = .ok (.iconst 0, 1) := by decide +kernel
theorem dX8_readMethod_386 : decode cX8_readMethod 386 = .ok (.istore 5, 2) := by decide +kernel
theorem dX8_readMethod_388 : decode cX8_readMethod 388 = .ok (.iload 5, 2) := by decide +kernel
theorem dX8_readMethod_390 : decode cX8_readMethod 390 = .ok (.aload_n 0, 1) := by decide +kernel
theorem dX8_readMethod_391 : decode cX8_readMethod 391 = .ok (.getfield 62, 3) := by decide +kernel
theorem dX8_readMethod_394 : decode cX8_readMethod 394 = .ok (.iload_n 1, 1) := by decide +kernel
theorem dX8_readMethod_395 : decode cX8_readMethod 395 = .ok (.iaload, 1) := by decide +kernel
theorem dX8_readMethod_396 : decode cX8_readMethod 396 = .ok (.if_icmp .ge 96, 3) := by decide +kernel
theorem dX8_readMethod_399 : decode cX8_readMethod 399 = .ok (.aload_n 0, 1) := by decide +kernel
theorem dX8_readMethod_400 : decode cX8_readMethod 400 = .ok (.iconst 0, 1) := by decide +kernel
theorem dX8_readMethod_401 : decode cX8_readMethod 401 = .ok (.sipush 255, 3) := by decide +kernel
theorem dX8_readMethod_404 : decode cX8_readMethod 404 = .ok (.invokevirtual 92, 3) := by decide +kernel
theorem dX8_readMethod_407 : decode cX8_readMethod 407 = .ok (.ifCond .eq 69, 3) := by decide +kernel
theorem dX8_readMethod_410 : decode cX8_readMethod 410 = .ok (.aload_n 0, 1) := by decide +kernel
theorem dX8_readMethod_411 : decode cX8_readMethod 411 = .ok (.iconst 0, 1) := by decide +kernel
theorem dX8_readMethod_412 : decode cX8_readMethod 412 = .ok (.sipush 255, 3) := by decide +kernel
theorem dX8_readMethod_415 : decode cX8_readMethod 415 = .ok (.invokevirtual 92, 3) := by decide +kernel
theorem dX8_readMethod_418 : decode cX8_readMethod 418 = .ok (.ifCond .eq 58, 3) := by decide +kernel
theorem dX8_readMethod_421 : decode cX8_readMethod 421 = .ok (.aload_n 0, 1) := by decide +kernel
theorem dX8_readMethod_422 : decode cX8_readMethod 422 = .ok (.iconst 0, 1) := by decide +kernel
theorem dX8_readMethod_423 : decode cX8_readMethod 423 = .ok (.sipush 255, 3) := by decide +kernel
theorem dX8_readMethod_426 : decode cX8_readMethod 426 = .ok (.invokevirtual 92, 3) := by decide +kernel
theorem dX8_readMethod_429 : decode cX8_readMethod 429 = .ok (.ifCond .eq 47, 3) := by decide +kernel
theorem dX8_readMethod_432 : decode cX8_readMethod 432 = .ok (.aload_n 0, 1) := by decide +kernel
theorem dX8_readMethod_433 : decode cX8_readMethod 433 = .ok (.iconst 0, 1) := by decide +kernel
theorem dX8_readMethod_434 : decode cX8_readMethod 434 = .ok (.sipush 255, 3) := by decide +kernel
theorem dX8_readMethod_437 : decode cX8_readMethod 437 = .ok (.invokevirtual 92, 3) := by decide +kernel
theorem dX8_readMethod_440 : decode cX8_readMethod 440 = .ok (.ifCond .eq 36, 3) := by decide +kernel
theorem dX8_readMethod_443 : decode cX8_readMethod 443 = .ok (.aload_n 0, 1) := by decide +kernel
theorem dX8_readMethod_444 : decode cX8_readMethod 444 = .ok (.invokevirtual 110, 3) := by decide +kernel
theorem dX8_readMethod_447 : decode cX8_readMethod 447 = .ok (.ifCond .eq 29, 3) := by decide +kernel
theorem dX8_readMethod_450 : decode cX8_readMethod 450 = .ok (.aload_n 0, 1) := by decide +kernel
theorem dX8_readMethod_451 : decode cX8_readMethod 451 = .ok (.iconst 0, 1) := by decide +kernel
theorem dX8_readMethod_452 : decode cX8_readMethod 452 = .ok (.sipush 255, 3) := by decide +kernel
theorem dX8_readMethod_455 : decode cX8_readMethod 455 = .ok (.invokevirtual 92, 3) := by decide +kernel
theorem dX8_readMethod_458 : decode cX8_readMethod 458 = .ok (.ifCond .eq 18, 3) := by decide +kernel
theorem dX8_readMethod_461 : decode cX8_readMethod 461 = .ok (.aload_n 0, 1) := by decide +kernel
theorem dX8_readMethod_462 : decode cX8_readMethod 462 = .ok (.iconst 0, 1) := by decide +kernel
theorem dX8_readMethod_463 : decode cX8_readMethod 463 = .ok (.sipush 255, 3) := by decide +kernel
theorem dX8_readMethod_466 : decode cX8_readMethod 466 = .ok (.invokevirtual 92, 3) := by decide +kernel
theorem dX8_readMethod_469 : decode cX8_readMethod 469 = .ok (.ifCond .eq 7, 3) := by decide +kernel
theorem dX8_readMethod_472 : decode cX8_readMethod 472 = .ok (.iconst 1, 1) := by decide +kernel
theorem dX8_readMethod_473 : decode cX8_readMethod 473 = .ok (.goto 4, 3) := by decide +kernel
theorem dX8_readMethod_476 : decode cX8_readMethod 476 = .ok (.iconst 0, 1) := by decide +kernel
theorem dX8_readMethod_477 : decode cX8_readMethod 477 = .ok (.istore 6, 2) := by decide +kernel
theorem dX8_readMethod_479 : decode cX8_readMethod 479 = .ok (.iload 6, 2) := by decide +kernel
theorem dX8_readMethod_481 : decode cX8_readMethod 481 = .ok (.ifCond .ne 5, 3) := by decide +kernel
theorem dX8_readMethod_484 : decode cX8_readMethod 484 = .ok (.iconst 0, 1) := by decide +kernel
theorem dX8_readMethod_485 : decode cX8_readMethod 485 = .ok (.ireturn, 1) := by decide +kernel
theorem dX8_readMethod_486 : decode cX8_readMethod 486 = .ok (.iinc 5 1, 3) := by decide +kernel
theorem dX8_readMethod_489 : decode cX8_readMethod 489 = .ok (.goto (-101), 3) := by decide +kernel
theorem dX8_readMethod_492 : decode cX8_readMethod 492 = .ok (.iconst 1, 1) := by decide +kernel
theorem dX8_readMethod_493 : decode cX8_readMethod 493 = .ok (.ireturn, 1) := by decide +kernel
theorem dX8_wide_0 : decode cX8_wide 0 = .ok (.iload_n 0, 1) := by decide +kernel
theorem dX8_wide_1 : decode cX8_wide 1 = .ok (.ifCond .ne 7, 3) := by decide +kernel
theorem dX8_wide_4 : decode cX8_wide 4 = .ok (.iconst 5, 1) := by decide +kernel
theorem dX8_wide_5 : decode cX8_wide 5 = .ok (.goto 92, 3) := by decide +kernel
theorem dX8_wide_8 : decode cX8_wide 8 = .ok (.iload_n 0, 1) := by decide +kernel
theorem dX8_wide_9 : decode cX8_wide 9 = .ok (.bipush 19, 2) := by decide +kernel
theorem dX8_wide_11 : decode cX8_wide 11 = .ok (.if_icmp .eq 9, 3) := by decide +kernel
theorem dX8_wide_14 : decode cX8_wide 14 = .ok (.iload_n 0, 1) := by decide +kernel
theorem dX8_wide_15 : decode cX8_wide 15 = .ok (.bipush 20, 2) := by decide +kernel
theorem dX8_wide_17 : decode cX8_wide 17 = .ok (.if_icmp .ne 7, 3) := by decide +kernel
theorem dX8_wide_20 : decode cX8_wide 20 = .ok (.iconst 4, 1) := by decide +kernel
theorem dX8_wide_21 : decode cX8_wide 21 = .ok (.goto 76, 3) := by decide +kernel
theorem dX8_wide_24 : decode cX8_wide 24 = .ok (.iload_n 0, 1) := by decide +kernel
theorem dX8_wide_25 : decode cX8_wide 25 = .ok (.bipush 21, 2) := by decide +kernel
theorem dX8_wide_27 : decode cX8_wide 27 = .ok (.if_icmp .lt 9, 3) := by decide +kernel
theorem dX8_wide_30 : decode cX8_wide 30 = .ok (.iload_n 0, 1) := by decide +kernel
theorem dX8_wide_31 : decode cX8_wide 31 = .ok (.bipush 25, 2) := by decide +kernel
theorem dX8_wide_33 : decode cX8_wide 33 = .ok (.if_icmp .le 21, 3) := by decide +kernel
theorem dX8_wide_36 : decode cX8_wide 36 = .ok (.iload_n 0, 1) := by decide +kernel
theorem dX8_wide_37 : decode cX8_wide 37 = .ok (.bipush 27, 2) := by decide +kernel
theorem dX8_wide_39 : decode cX8_wide 39 = .ok (.if_icmp .eq 15, 3) := by decide +kernel
theorem dX8_wide_42 : decode cX8_wide 42 = .ok (.iload_n 0, 1) := by decide +kernel
theorem dX8_wide_43 : decode cX8_wide 43 = .ok (.bipush 28, 2) := by decide +kernel
theorem dX8_wide_45 : decode cX8_wide 45 = .ok (.if_icmp .eq 9, 3) := by decide +kernel
theorem dX8_wide_48 : decode cX8_wide 48 = .ok (.iload_n 0, 1) := by decide +kernel
theorem dX8_wide_49 : decode cX8_wide 49 = .ok (.bipush 36, 2) := by decide +kernel
theorem dX8_wide_51 : decode cX8_wide 51 = .ok (.if_icmp .ne 7, 3) := by decide +kernel
theorem dX8_wide_54 : decode cX8_wide 54 = .ok (.iconst 3, 1) := by decide +kernel
theorem dX8_wide_55 : decode cX8_wide 55 = .ok (.goto 42, 3) := by decide +kernel
theorem dX8_wide_58 : decode cX8_wide 58 = .ok (.iload_n 0, 1) := by decide +kernel
theorem dX8_wide_59 : decode cX8_wide 59 = .ok (.iconst 2, 1) := by decide +kernel
theorem dX8_wide_60 : decode cX8_wide 60 = .ok (.if_icmp .eq 32, 3) := by decide +kernel
theorem dX8_wide_63 : decode cX8_wide 63 = .ok (.iload_n 0, 1) := by decide +kernel
theorem dX8_wide_64 : decode cX8_wide 64 = .ok (.iconst 3, 1) := by decide +kernel
theorem dX8_wide_65 : decode cX8_wide 65 = .ok (.if_icmp .eq 27, 3) := by decide +kernel
theorem dX8_wide_68 : decode cX8_wide 68 = .ok (.iload_n 0, 1) := by decide +kernel
theorem dX8_wide_69 : decode cX8_wide 69 = .ok (.bipush 26, 2) := by decide +kernel
theorem dX8_wide_71 : decode cX8_wide 71 = .ok (.if_icmp .eq 21, 3) := by decide +kernel
theorem dX8_wide_74 : decode cX8_wide 74 = .ok (.iload_n 0, 1) := by decide +kernel
theorem dX8_wide_75 : decode cX8_wide 75 = .ok (.bipush 29, 2) := by decide +kernel
theorem dX8_wide_77 : decode cX8_wide 77 = .ok (.if_icmp .lt 9, 3) := by decide +kernel
theorem dX8_wide_80 : decode cX8_wide 80 = .ok (.iload_n 0, 1) := by decide +kernel
theorem dX8_wide_81 : decode cX8_wide 81 = .ok (.bipush 31, 2) := by decide +kernel
theorem dX8_wide_83 : decode cX8_wide 83 = .ok (.if_icmp .le 9, 3) := by decide +kernel
theorem dX8_wide_86 : decode cX8_wide 86 = .ok (.iload_n 0, 1) := by decide +kernel
theorem dX8_wide_87 : decode cX8_wide 87 = .ok (.bipush 35, 2) := by decide +kernel
theorem dX8_wide_89 : decode cX8_wide 89 = .ok (.if_icmp .ne 7, 3) := by decide +kernel
theorem dX8_wide_92 : decode cX8_wide 92 = .ok (.iconst 2, 1) := by decide +kernel
theorem dX8_wide_93 : decode cX8_wide 93 = .ok (.goto 4, 3) := by decide +kernel
theorem dX8_wide_96 : decode cX8_wide 96 = .ok (.iconst 1, 1) := by decide +kernel
theorem dX8_wide_97 : decode cX8_wide 97 = .ok (.ireturn, 1) := by decide +kernel
set_option maxRecDepth 20000 in
theorem ggX8_readInstruction_X8_over : GoodIn wsX8_readInstruction wsX8_over := goodIn_r _ [12, 1, 13, 14, 15, 11, 16, 17, 18, 19, 20, 21, 22, 23, 35, 36, 37, 38, 39, 40, 41, 42, 43, 44, 45, 46, 47, 48, 49, 50, 51, 52, 53, 54, 55, 56, 57, 58, 59, 60, 61, 62] (by decide +kernel) (by decide +kernel)
set_option maxRecDepth 20000 in
theorem gX8_readInstruction_X8_over : GoodIn wsX8_readInstruction (wsV RX8 92 RX8 yX8_over wsX8_over) := goodIn_app (goodIn_of _ (by decide +kernel)) ggX8_readInstruction_X8_over
set_option maxRecDepth 20000 in
theorem ggX8_readInstruction_X8_last : GoodIn wsX8_readInstruction wsX8_last := goodIn_r _ [27, 18, 1, 35, 36, 37, 38, 39, 40, 41, 42, 43, 44, 45, 46, 47, 48, 49, 50, 51, 52, 53, 54, 55, 56, 57, 58, 59, 60, 61, 62] (by decide +kernel) (by decide +kernel)
set_option maxRecDepth 20000 in
theorem gX8_readInstruction_X8_last : GoodIn wsX8_readInstruction (wsV RX8 96 RX8 yX8_last wsX8_last) := goodIn_app (goodIn_of _ (by decide +kernel)) ggX8_readInstruction_X8_last
set_option maxRecDepth 20000 in
theorem ggX8_readInstruction_X8_wide : GoodIn wsX8_readInstruction wsX8_wide := goodIn_r _ [30] (by decide +kernel) (by decide +kernel)
set_option maxRecDepth 20000 in
theorem gX8_readInstruction_X8_wide : GoodIn wsX8_readInstruction (va_wsS RX8 114 yX8_wide wsX8_wide) := goodIn_app (goodIn_of _ (by decide +kernel)) ggX8_readInstruction_X8_wide
set_option maxRecDepth 20000 in
theorem ggX8_readInstruction_X8_bad : GoodIn wsX8_readInstruction wsX8_bad := goodIn_r _ [22, 23, 35, 36, 37, 38, 39, 40, 41, 42, 43, 44, 45, 46, 47, 48, 49, 50, 51, 52, 53, 54, 55, 56, 57, 58, 59, 60, 61, 62] (by decide +kernel) (by decide +kernel)
set_option maxRecDepth 20000 in
theorem gX8_readInstruction_X8_bad : GoodIn wsX8_readInstruction (wsV RX8 85 RX8 yX8_bad wsX8_bad) := goodIn_app (goodIn_of _ (by decide +kernel)) ggX8_readInstruction_X8_bad
set_option maxRecDepth 20000 in
theorem ggX8_readInstruction_X8_overClass : GoodIn wsX8_readInstruction wsX8_overClass := goodIn_r _ [34, 4, 8, 9, 10, 11, 12, 1, 13, 14, 15, 16, 17, 18, 19, 20, 21, 22, 23, 35, 36, 37, 38, 39, 40, 41, 42, 43, 44, 45, 46, 47, 48, 49, 50, 51, 52, 53, 54, 55, 56, 57, 58, 59, 60, 61, 62] (by decide +kernel) (by decide +kernel)
set_option maxRecDepth 20000 in
theorem gX8_readInstruction_X8_overClass : GoodIn wsX8_readInstruction (wsV RX8 110 RX8 yX8_overClass wsX8_overClass) := goodIn_app (goodIn_of _ (by decide +kernel)) ggX8_readInstruction_X8_overClass
set_option maxRecDepth 20000 in
theorem ggX8_readInstruction_X8_here : GoodIn wsX8_readInstruction wsX8_here := goodIn_r _ [16, 1, 17, 18, 35, 36, 37, 38, 39, 40, 41, 42, 43, 44, 45, 46, 47, 48, 49, 50, 51, 52, 53, 54, 55, 56, 57, 58, 59, 60, 61, 62] (by decide +kernel) (by decide +kernel)
set_option maxRecDepth 20000 in
theorem gX8_readInstruction_X8_here : GoodIn wsX8_readInstruction (wsV RX8 81 RX8 yX8_here wsX8_here) := goodIn_app (goodIn_of _ (by decide +kernel)) ggX8_readInstruction_X8_here
theorem dX8_readInstruction_0 : decode cX8_readInstruction 0 = .ok (.aload_n 0, 1) := by decide +kernel
theorem dX8_readInstruction_1 : decode cX8_readInstruction 1 = .ok (.getfield 75, 3) := by decide +kernel
theorem dX8_readInstruction_4 : decode cX8_readInstruction 4 = .ok (.istore_n 3, 1) := by decide +kernel
theorem dX8_readInstruction_5 : decode cX8_readInstruction 5 = .ok (.aload_n 0, 1) := by decide +kernel
theorem dX8_readInstruction_6 : decode cX8_readInstruction 6 = .ok (.iconst 0, 1) := by decide +kernel
theorem dX8_readInstruction_7 : decode cX8_readInstruction 7 = .ok (.bipush 41, 2) := by decide +kernel
theorem dX8_readInstruction_9 : decode cX8_readInstruction 9 = .ok (.invokevirtual 92, 3) := by decide +kernel
theorem dX8_readInstruction_12 : decode cX8_readInstruction 12 = .ok (.ifCond .ne 5, 3) := by decide +kernel
theorem dX8_readInstruction_15 : decode cX8_readInstruction 15 = .ok (.iconst 0, 1) := by decide +kernel
theorem dX8_readInstruction_16 : decode cX8_readInstruction 16 = .ok (.ireturn, 1) := by decide +kernel
theorem dX8_readInstruction_17 : decode cX8_readInstruction 17 = .ok (.aload_n 0, 1) := by decide +kernel
theorem dX8_readInstruction_18 : decode cX8_readInstruction 18 = .ok (.invokevirtual 96, 3) := by decide +kernel
theorem dX8_readInstruction_21 : decode cX8_readInstruction 21 = .ok (.istore 4, 2) := by decide +kernel
theorem dX8_readInstruction_23 : decode cX8_readInstruction 23 = .ok (.iload_n 3, 1) := by decide +kernel
theorem dX8_readInstruction_24 : decode cX8_readInstruction 24 = .ok (.iload 4, 2) := by decide +kernel
theorem dX8_readInstruction_26 : decode cX8_readInstruction 26 = .ok (.invokestatic 114, 3) := by decide +kernel
theorem dX8_readInstruction_29 : decode cX8_readInstruction 29 = .ok (.iadd, 1) := by decide +kernel
theorem dX8_readInstruction_30 : decode cX8_readInstruction 30 = .ok (.iload_n 2, 1) := by decide +kernel
theorem dX8_readInstruction_31 : decode cX8_readInstruction 31 = .ok (.if_icmp .le 9, 3) := by decide +kernel
theorem dX8_readInstruction_34 : decode cX8_readInstruction 34 = .ok (.aload_n 0, 1) := by decide +kernel
theorem dX8_readInstruction_35 : decode cX8_readInstruction 35 = .ok (.iload_n 3, 1) := by decide +kernel
theorem dX8_readInstruction_36 : decode cX8_readInstruction 36 = .ok (.invokevirtual 85, 3) := by decide +kernel
theorem dX8_readInstruction_39 : decode cX8_readInstruction 39 = .ok (.ireturn, 1) := by decide +kernel
theorem dX8_readInstruction_40 : decode cX8_readInstruction 40 = .ok (.iconst 1, 1) := by decide +kernel
theorem dX8_readInstruction_41 : decode cX8_readInstruction 41 = .ok (.istore 5, 2) := by decide +kernel
theorem dX8_readInstruction_43 : decode cX8_readInstruction 43 = .ok (.iload 4, 2) := by decide +kernel
theorem dX8_readInstruction_45 : decode cX8_readInstruction 45 = .ok (.ifCond .ne 57, 3) := by decide +kernel
theorem dX8_readInstruction_48 : decode cX8_readInstruction 48 = .ok (.aload_n 0, 1) := by decide +kernel
theorem dX8_readInstruction_49 : decode cX8_readInstruction 49 = .ok (.iconst 0, 1) := by decide +kernel
theorem dX8_readInstruction_50 : decode cX8_readInstruction 50 = .ok (.sipush 255, 3) := by decide +kernel
theorem dX8_readInstruction_53 : decode cX8_readInstruction 53 = .ok (.invokevirtual 92, 3) := by decide +kernel
theorem dX8_readInstruction_56 : decode cX8_readInstruction 56 = .ok (.ifCond .eq 40, 3) := by decide +kernel
theorem dX8_readInstruction_59 : decode cX8_readInstruction 59 = .ok (.aload_n 0, 1) := by decide +kernel
theorem dX8_readInstruction_60 : decode cX8_readInstruction 60 = .ok (.iconst 0, 1) := by decide +kernel
theorem dX8_readInstruction_61 : decode cX8_readInstruction 61 = .ok (.sipush 255, 3) := by decide +kernel
theorem dX8_readInstruction_64 : decode cX8_readInstruction 64 = .ok (.invokevirtual 92, 3) := by decide +kernel
theorem dX8_readInstruction_67 : decode cX8_readInstruction 67 = .ok (.ifCond .eq 29, 3) := by decide +kernel
theorem dX8_readInstruction_70 : decode cX8_readInstruction 70 = .ok (.aload_n 0, 1) := by decide +kernel
theorem dX8_readInstruction_71 : decode cX8_readInstruction 71 = .ok (.iconst 0, 1) := by decide +kernel
theorem dX8_readInstruction_72 : decode cX8_readInstruction 72 = .ok (.sipush 255, 3) := by decide +kernel
theorem dX8_readInstruction_75 : decode cX8_readInstruction 75 = .ok (.invokevirtual 92, 3) := by decide +kernel
theorem dX8_readInstruction_78 : decode cX8_readInstruction 78 = .ok (.ifCond .eq 18, 3) := by decide +kernel
theorem dX8_readInstruction_81 : decode cX8_readInstruction 81 = .ok (.aload_n 0, 1) := by decide +kernel
theorem dX8_readInstruction_82 : decode cX8_readInstruction 82 = .ok (.iconst 0, 1) := by decide +kernel
theorem dX8_readInstruction_83 : decode cX8_readInstruction 83 = .ok (.sipush 255, 3) := by decide +kernel
theorem dX8_readInstruction_86 : decode cX8_readInstruction 86 = .ok (.invokevirtual 92, 3) := by decide +kernel
theorem dX8_readInstruction_89 : decode cX8_readInstruction 89 = .ok (.ifCond .eq 7, 3) := by decide +kernel
theorem dX8_readInstruction_92 : decode cX8_readInstruction 92 = .ok (.iconst 1, 1) := by decide +kernel
theorem dX8_readInstruction_93 : decode cX8_readInstruction 93 = .ok (.goto 4, 3) := by decide +kernel
theorem dX8_readInstruction_96 : decode cX8_readInstruction 96 = .ok (.iconst 0, 1) := by decide +kernel
theorem dX8_readInstruction_97 : decode cX8_readInstruction 97 = .ok (.istore 5, 2) := by decide +kernel
theorem dX8_readInstruction_99 : decode cX8_readInstruction 99 = .ok (.goto 340, 3) := by decide +kernel
theorem dX8_readInstruction_102 : decode cX8_readInstruction 102 = .ok (.iload 4, 2) := by decide +kernel
theorem dX8_readInstruction_104 : decode cX8_readInstruction 104 = .ok (.iconst 2, 1) := by decide +kernel
theorem dX8_readInstruction_105 : decode cX8_readInstruction 105 = .ok (.if_icmp .eq 9, 3) := by decide +kernel
theorem dX8_readInstruction_108 : decode cX8_readInstruction 108 = .ok (.iload 4, 2) := by decide +kernel
theorem dX8_readInstruction_110 : decode cX8_readInstruction 110 = .ok (.iconst 3, 1) := by decide +kernel
theorem dX8_readInstruction_111 : decode cX8_readInstruction 111 = .ok (.if_icmp .ne 21, 3) := by decide +kernel
theorem dX8_readInstruction_114 : decode cX8_readInstruction 114 = .ok (.aload_n 0, 1) := by decide +kernel
theorem dX8_readInstruction_115 : decode cX8_readInstruction 115 = .ok (.iconst 0, 1) := by decide +kernel
theorem dX8_readInstruction_116 : decode cX8_readInstruction 116 = .ok (.aload_n 0, 1) := by decide +kernel
theorem dX8_readInstruction_117 : decode cX8_readInstruction 117 = .ok (.getfield 50, 3) := by decide +kernel
theorem dX8_readInstruction_120 : decode cX8_readInstruction 120 = .ok (.iload_n 1, 1) := by decide +kernel
theorem dX8_readInstruction_121 : decode cX8_readInstruction 121 = .ok (.iaload, 1) := by decide +kernel
theorem dX8_readInstruction_122 : decode cX8_readInstruction 122 = .ok (.iconst 1, 1) := by decide +kernel
theorem dX8_readInstruction_123 : decode cX8_readInstruction 123 = .ok (.isub, 1) := by decide +kernel
theorem dX8_readInstruction_124 : decode cX8_readInstruction 124 = .ok (.invokevirtual 92, 3) := by decide +kernel
theorem dX8_readInstruction_127 : decode cX8_readInstruction 127 = .ok (.istore 5, 2) := by decide +kernel
theorem dX8_readInstruction_129 : decode cX8_readInstruction 129 = .ok (.goto 310, 3) := by decide +kernel
theorem dX8_readInstruction_132 : decode cX8_readInstruction 132 = .ok (.iload 4, 2) := by decide +kernel
theorem dX8_readInstruction_134 : decode cX8_readInstruction 134 = .ok (.bipush 19, 2) := by decide +kernel
theorem dX8_readInstruction_136 : decode cX8_readInstruction 136 = .ok (.if_icmp .eq 10, 3) := by decide +kernel
theorem dX8_readInstruction_139 : decode cX8_readInstruction 139 = .ok (.iload 4, 2) := by decide +kernel
theorem dX8_readInstruction_141 : decode cX8_readInstruction 141 = .ok (.bipush 20, 2) := by decide +kernel
theorem dX8_readInstruction_143 : decode cX8_readInstruction 143 = .ok (.if_icmp .ne 44, 3) := by decide +kernel
theorem dX8_readInstruction_146 : decode cX8_readInstruction 146 = .ok (.aload_n 0, 1) := by decide +kernel
theorem dX8_readInstruction_147 : decode cX8_readInstruction 147 = .ok (.iconst 0, 1) := by decide +kernel
theorem dX8_readInstruction_148 : decode cX8_readInstruction 148 = .ok (.iconst 5, 1) := by decide +kernel
theorem dX8_readInstruction_149 : decode cX8_readInstruction 149 = .ok (.invokevirtual 92, 3) := by decide +kernel
theorem dX8_readInstruction_152 : decode cX8_readInstruction 152 = .ok (.ifCond .eq 29, 3) := by decide +kernel
theorem dX8_readInstruction_155 : decode cX8_readInstruction 155 = .ok (.aload_n 0, 1) := by decide +kernel
theorem dX8_readInstruction_156 : decode cX8_readInstruction 156 = .ok (.iconst 0, 1) := by decide +kernel
theorem dX8_readInstruction_157 : decode cX8_readInstruction 157 = .ok (.sipush 255, 3) := by decide +kernel
theorem dX8_readInstruction_160 : decode cX8_readInstruction 160 = .ok (.invokevirtual 92, 3) := by decide +kernel
theorem dX8_readInstruction_163 : decode cX8_readInstruction 163 = .ok (.ifCond .eq 18, 3) := by decide +kernel
theorem dX8_readInstruction_166 : decode cX8_readInstruction 166 = .ok (.aload_n 0, 1) := by decide +kernel
theorem dX8_readInstruction_167 : decode cX8_readInstruction 167 = .ok (.iconst 0, 1) := by decide +kernel
theorem dX8_readInstruction_168 : decode cX8_readInstruction 168 = .ok (.sipush 255, 3) := by decide +kernel
theorem dX8_readInstruction_171 : decode cX8_readInstruction 171 = .ok (.invokevirtual 92, 3) := by decide +kernel
theorem dX8_readInstruction_174 : decode cX8_readInstruction 174 = .ok (.ifCond .eq 7, 3) := by decide +kernel
theorem dX8_readInstruction_177 : decode cX8_readInstruction 177 = .ok (.iconst 1, 1) := by decide +kernel
theorem dX8_readInstruction_178 : decode cX8_readInstruction 178 = .ok (.goto 4, 3) := by decide +kernel
theorem dX8_readInstruction_181 : decode cX8_readInstruction 181 = .ok (.iconst 0, 1) := by decide +kernel
theorem dX8_readInstruction_182 : decode cX8_readInstruction 182 = .ok (.istore 5, 2) := by decide +kernel
theorem dX8_readInstruction_184 : decode cX8_readInstruction 184 = .ok (.goto 255, 3) := by decide +kernel
theorem dX8_readInstruction_187 : decode cX8_readInstruction 187 = .ok (.iload 4, 2) := by decide +kernel
theorem dX8_readInstruction_189 : decode cX8_readInstruction 189 = .ok (.bipush 21, 2) := by decide +kernel
theorem dX8_readInstruction_191 : decode cX8_readInstruction 191 = .ok (.if_icmp .lt 42, 3) := by decide +kernel
theorem dX8_readInstruction_194 : decode cX8_readInstruction 194 = .ok (.iload 4, 2) := by decide +kernel
theorem dX8_readInstruction_196 : decode cX8_readInstruction 196 = .ok (.bipush 25, 2) := by decide +kernel
theorem dX8_readInstruction_198 : decode cX8_readInstruction 198 = .ok (.if_icmp .gt 35, 3) := by decide +kernel
theorem dX8_readInstruction_201 : decode cX8_readInstruction 201 = .ok (.aload_n 0, 1) := by decide +kernel
theorem dX8_readInstruction_202 : decode cX8_readInstruction 202 = .ok (.iconst 0, 1) := by decide +kernel
theorem dX8_readInstruction_203 : decode cX8_readInstruction 203 = .ok (.sipush 255, 3) := by decide +kernel
theorem dX8_readInstruction_206 : decode cX8_readInstruction 206 = .ok (.invokevirtual 92, 3) := by decide +kernel
theorem dX8_readInstruction_209 : decode cX8_readInstruction 209 = .ok (.ifCond .eq 18, 3) := by decide +kernel
theorem dX8_readInstruction_212 : decode cX8_readInstruction 212 = .ok (.aload_n 0, 1) := by decide +kernel
theorem dX8_readInstruction_213 : decode cX8_readInstruction 213 = .ok (.iconst 0, 1) := by decide +kernel
theorem dX8_readInstruction_214 : decode cX8_readInstruction 214 = .ok (.sipush 255, 3) := by decide +kernel
theorem dX8_readInstruction_217 : decode cX8_readInstruction 217 = .ok (.invokevirtual 92, 3) := by decide +kernel
theorem dX8_readInstruction_220 : decode cX8_readInstruction 220 = .ok (.ifCond .eq 7, 3) := by decide +kernel
theorem dX8_readInstruction_223 : decode cX8_readInstruction 223 = .ok (.iconst 1, 1) := by decide +kernel
theorem dX8_readInstruction_224 : decode cX8_readInstruction 224 = .ok (.goto 4, 3) := by decide +kernel
theorem dX8_readInstruction_227 : decode cX8_readInstruction 227 = .ok (.iconst 0, 1) := by decide +kernel
theorem dX8_readInstruction_228 : decode cX8_readInstruction 228 = .ok (.istore 5, 2) := by decide +kernel
theorem dX8_readInstruction_230 : decode cX8_readInstruction 230 = .ok (.goto 209, 3) := by decide +kernel
theorem dX8_readInstruction_233 : decode cX8_readInstruction 233 = .ok (.iload 4, 2) := by decide +kernel
theorem dX8_readInstruction_235 : decode cX8_readInstruction 235 = .ok (.bipush 26, 2) := by decide +kernel
theorem dX8_readInstruction_237 : decode cX8_readInstruction 237 = .ok (.if_icmp .eq 17, 3) := by decide +kernel
theorem dX8_readInstruction_240 : decode cX8_readInstruction 240 = .ok (.iload 4, 2) := by decide +kernel
theorem dX8_readInstruction_242 : decode cX8_readInstruction 242 = .ok (.bipush 29, 2) := by decide +kernel
theorem dX8_readInstruction_244 : decode cX8_readInstruction 244 = .ok (.if_icmp .eq 10, 3) := by decide +kernel
theorem dX8_readInstruction_247 : decode cX8_readInstruction 247 = .ok (.iload 4, 2) := by decide +kernel
theorem dX8_readInstruction_249 : decode cX8_readInstruction 249 = .ok (.bipush 30, 2) := by decide +kernel
theorem dX8_readInstruction_251 : decode cX8_readInstruction 251 = .ok (.if_icmp .ne 12, 3) := by decide +kernel
theorem dX8_readInstruction_254 : decode cX8_readInstruction 254 = .ok (.aload_n 0, 1) := by decide +kernel
theorem dX8_readInstruction_255 : decode cX8_readInstruction 255 = .ok (.invokevirtual 110, 3) := by decide +kernel
theorem dX8_readInstruction_258 : decode cX8_readInstruction 258 = .ok (.istore 5, 2) := by decide +kernel
theorem dX8_readInstruction_260 : decode cX8_readInstruction 260 = .ok (.goto 179, 3) := by decide +kernel
theorem dX8_readInstruction_263 : decode cX8_readInstruction 263 = .ok (.iload 4, 2) := by decide +kernel
theorem dX8_readInstruction_265 : decode cX8_readInstruction 265 = .ok (.bipush 27, 2) := by decide +kernel
theorem dX8_readInstruction_267 : decode cX8_readInstruction 267 = .ok (.if_icmp .eq 10, 3) := by decide +kernel
theorem dX8_readInstruction_270 : decode cX8_readInstruction 270 = .ok (.iload 4, 2) := by decide +kernel
theorem dX8_readInstruction_272 : decode cX8_readInstruction 272 = .ok (.bipush 28, 2) := by decide +kernel
theorem dX8_readInstruction_274 : decode cX8_readInstruction 274 = .ok (.if_icmp .ne 39, 3) := by decide +kernel
theorem dX8_readInstruction_277 : decode cX8_readInstruction 277 = .ok (.aload_n 0, 1) := by decide +kernel
theorem dX8_readInstruction_278 : decode cX8_readInstruction 278 = .ok (.invokevirtual 110, 3) := by decide +kernel
theorem dX8_readInstruction_281 : decode cX8_readInstruction 281 = .ok (.ifCond .eq 26, 3) := by decide +kernel
theorem dX8_readInstruction_284 : decode cX8_readInstruction 284 = .ok (.aload_n 0, 1) := by decide +kernel
theorem dX8_readInstruction_285 : decode cX8_readInstruction 285 = .ok (.iconst 0, 1) := by decide +kernel
theorem dX8_readInstruction_286 : decode cX8_readInstruction 286 = .ok (.aload_n 0, 1) := by decide +kernel
theorem dX8_readInstruction_287 : decode cX8_readInstruction 287 = .ok (.getfield 23, 3) := by decide +kernel
theorem dX8_readInstruction_290 : decode cX8_readInstruction 290 = .ok (.aload_n 0, 1) := by decide +kernel
theorem dX8_readInstruction_291 : decode cX8_readInstruction 291 = .ok (.invokevirtual 96, 3) := by decide +kernel
theorem dX8_readInstruction_294 : decode cX8_readInstruction 294 = .ok (.iaload, 1) := by decide +kernel
theorem dX8_readInstruction_295 : decode cX8_readInstruction 295 = .ok (.iconst 1, 1) := by decide +kernel
theorem dX8_readInstruction_296 : decode cX8_readInstruction 296 = .ok (.isub, 1) := by decide +kernel
theorem dX8_readInstruction_297 : decode cX8_readInstruction 297 = .ok (.invokevirtual 92, 3) := by decide +kernel
theorem dX8_readInstruction_300 : decode cX8_readInstruction 300 = .ok (.ifCond .eq 7, 3) := by decide +kernel
theorem dX8_readInstruction_303 : decode cX8_readInstruction 303 = .ok (.iconst 1, 1) := by decide +kernel
theorem dX8_readInstruction_304 : decode cX8_readInstruction 304 = .ok (.goto 4, 3) := by decide +kernel
theorem dX8_readInstruction_307 : decode cX8_readInstruction 307 = .ok (.iconst 0, 1) := by decide +kernel
theorem dX8_readInstruction_308 : decode cX8_readInstruction 308 = .ok (.istore 5, 2) := by decide +kernel
theorem dX8_readInstruction_310 : decode cX8_readInstruction 310 = .ok (.goto 129, 3) := by decide +kernel
theorem dX8_readInstruction_313 : decode cX8_readInstruction 313 = .ok (.iload 4, 2) := by decide +kernel
theorem dX8_readInstruction_315 : decode cX8_readInstruction 315 = .ok (.bipush 31, 2) := by decide +kernel
theorem dX8_readInstruction_317 : decode cX8_readInstruction 317 = .ok (.if_icmp .ne 17, 3) := by decide +kernel
theorem dX8_readInstruction_320 : decode cX8_readInstruction 320 = .ok (.aload_n 0, 1) := by decide +kernel
theorem dX8_readInstruction_321 : decode cX8_readInstruction 321 = .ok (.iconst 0, 1) := by decide +kernel
theorem dX8_readInstruction_322 : decode cX8_readInstruction 322 = .ok (.aload_n 0, 1) := by decide +kernel
theorem dX8_readInstruction_323 : decode cX8_readInstruction 323 = .ok (.getfield 89, 3) := by decide +kernel
theorem dX8_readInstruction_326 : decode cX8_readInstruction 326 = .ok (.invokevirtual 92, 3) := by decide +kernel
theorem dX8_readInstruction_329 : decode cX8_readInstruction 329 = .ok (.istore 5, 2) := by decide +kernel
theorem dX8_readInstruction_331 : decode cX8_readInstruction 331 = .ok (.goto 108, 3) := by decide +kernel
theorem dX8_readInstruction_334 : decode cX8_readInstruction 334 = .ok (.iload 4, 2) := by decide +kernel
theorem dX8_readInstruction_336 : decode cX8_readInstruction 336 = .ok (.bipush 35, 2) := by decide +kernel
theorem dX8_readInstruction_338 : decode cX8_readInstruction 338 = .ok (.if_icmp .ne 16, 3) := by decide +kernel
theorem dX8_readInstruction_341 : decode cX8_readInstruction 341 = .ok (.aload_n 0, 1) := by decide +kernel
theorem dX8_readInstruction_342 : decode cX8_readInstruction 342 = .ok (.iconst 0, 1) := by decide +kernel
theorem dX8_readInstruction_343 : decode cX8_readInstruction 343 = .ok (.sipush 255, 3) := by decide +kernel
theorem dX8_readInstruction_346 : decode cX8_readInstruction 346 = .ok (.invokevirtual 92, 3) := by decide +kernel
theorem dX8_readInstruction_349 : decode cX8_readInstruction 349 = .ok (.istore 5, 2) := by decide +kernel
theorem dX8_readInstruction_351 : decode cX8_readInstruction 351 = .ok (.goto 88, 3) := by decide +kernel
theorem dX8_readInstruction_354 : decode cX8_readInstruction 354 = .ok (.iload 4, 2) := by decide +kernel
theorem dX8_readInstruction_356 : decode cX8_readInstruction 356 = .ok (.bipush 36, 2) := by decide +kernel
theorem dX8_readInstruction_358 : decode cX8_readInstruction 358 = .ok (.if_icmp .ne 81, 3) := by decide +kernel
theorem dX8_readInstruction_361 : decode cX8_readInstruction 361 = .ok (.aload_n 0, 1) := by decide +kernel
theorem dX8_readInstruction_362 : decode cX8_readInstruction 362 = .ok (.invokevirtual 110, 3) := by decide +kernel
theorem dX8_readInstruction_365 : decode cX8_readInstruction 365 = .ok (.istore 5, 2) := by decide +kernel
theorem dX8_readInstruction_367 : decode cX8_readInstruction 367 = .ok (.iload 5, 2) := by decide +kernel
theorem dX8_readInstruction_369 : decode cX8_readInstruction 369 = .ok (.ifCond .eq 70, 3) := by decide +kernel
theorem dX8_readInstruction_372 : decode cX8_readInstruction 372 = .ok (.aload_n 0, 1) := by decide +kernel
theorem dX8_readInstruction_373 : decode cX8_readInstruction 373 = .ok (.invokevirtual 96, 3) := by decide +kernel
theorem dX8_readInstruction_376 : decode cX8_readInstruction 376 = .ok (.istore 6, 2) := by decide +kernel
theorem dX8_readInstruction_378 : decode cX8_readInstruction 378 = .ok (.aload_n 0, 1) := by decide +kernel
theorem dX8_readInstruction_379 : decode cX8_readInstruction 379 = .ok (.invokevirtual 81, 3) := by decide +kernel
theorem dX8_readInstruction_382 : decode cX8_readInstruction 382 = .ok (.bipush 16, 2) := by decide +kernel
theorem dX8_readInstruction_384 : decode cX8_readInstruction 384 = .ok (.if_icmp .ge 26, 3) := by decide +kernel
theorem dX8_readInstruction_387 : decode cX8_readInstruction 387 = .ok (.aload_n 0, 1) := by decide +kernel
theorem dX8_readInstruction_388 : decode cX8_readInstruction 388 = .ok (.getfield 29, 3) := by decide +kernel
theorem dX8_readInstruction_391 : decode cX8_readInstruction 391 = .ok (.bipush 16, 2) := by decide +kernel
theorem dX8_readInstruction_393 : decode cX8_readInstruction 393 = .ok (.iload 6, 2) := by decide +kernel
theorem dX8_readInstruction_395 : decode cX8_readInstruction 395 = .ok (.imul, 1) := by decide +kernel
theorem dX8_readInstruction_396 : decode cX8_readInstruction 396 = .ok (.aload_n 0, 1) := by decide +kernel
theorem dX8_readInstruction_397 : decode cX8_readInstruction 397 = .ok (.invokevirtual 81, 3) := by decide +kernel
theorem dX8_readInstruction_400 : decode cX8_readInstruction 400 = .ok (.iadd, 1) := by decide +kernel
theorem dX8_readInstruction_401 : decode cX8_readInstruction 401 = .ok (.iaload, 1) := by decide +kernel
theorem dX8_readInstruction_402 : decode cX8_readInstruction 402 = .ok (.iconst (-1), 1) := by decide +kernel
theorem dX8_readInstruction_403 : decode cX8_readInstruction 403 = .ok (.if_icmp .eq 7, 3) := by decide +kernel
theorem dX8_readInstruction_406 : decode cX8_readInstruction 406 = .ok (.iconst 1, 1) := by decide +kernel
theorem dX8_readInstruction_407 : decode cX8_readInstruction 407 = .ok (.goto 4, 3) := by decide +kernel
theorem dX8_readInstruction_410 : decode cX8_readInstruction 410 = .ok (.iconst 0, 1) := by decide +kernel
theorem dX8_readInstruction_411 : decode cX8_readInstruction 411 = .ok (.istore 7, 2) := by decide +kernel
theorem dX8_readInstruction_413 : decode cX8_readInstruction 413 = .ok (.iload 7, 2) := by decide +kernel
theorem dX8_readInstruction_415 : decode cX8_readInstruction 415 = .ok (.ifCond .eq 14, 3) := by decide +kernel
theorem dX8_readInstruction_418 : decode cX8_readInstruction 418 = .ok (.aload_n 0, 1) := by decide +kernel
theorem dX8_readInstruction_419 : decode cX8_readInstruction 419 = .ok (.iconst 0, 1) := by decide +kernel
theorem dX8_readInstruction_420 : decode cX8_readInstruction 420 = .ok (.sipush 255, 3) := by decide +kernel
theorem dX8_readInstruction_423 : decode cX8_readInstruction 423 = .ok (.invokevirtual 92, 3) := by decide +kernel
theorem dX8_readInstruction_426 : decode cX8_readInstruction 426 = .ok (.goto 11, 3) := by decide +kernel
theorem dX8_readInstruction_429 : decode cX8_readInstruction 429 = .ok (.aload_n 0, 1) := by decide +kernel
theorem dX8_readInstruction_430 : decode cX8_readInstruction 430 = .ok (.aload_n 0, 1) := by decide +kernel
theorem dX8_readInstruction_431 : decode cX8_readInstruction 431 = .ok (.getfield 75, 3) := by decide +kernel
theorem dX8_readInstruction_434 : decode cX8_readInstruction 434 = .ok (.invokevirtual 85, 3) := by decide +kernel
theorem dX8_readInstruction_437 : decode cX8_readInstruction 437 = .ok (.istore 5, 2) := by decide +kernel
theorem dX8_readInstruction_439 : decode cX8_readInstruction 439 = .ok (.iload 5, 2) := by decide +kernel
theorem dX8_readInstruction_441 : decode cX8_readInstruction 441 = .ok (.ifCond .eq 20, 3) := by decide +kernel
theorem dX8_readInstruction_444 : decode cX8_readInstruction 444 = .ok (.aload_n 0, 1) := by decide +kernel
theorem dX8_readInstruction_445 : decode cX8_readInstruction 445 = .ok (.getfield 16, 3) := by decide +kernel
theorem dX8_readInstruction_448 : decode cX8_readInstruction 448 = .ok (.iload_n 3, 1) := by decide +kernel
theorem dX8_readInstruction_449 : decode cX8_readInstruction 449 = .ok (.iconst 1, 1) := by decide +kernel
theorem dX8_readInstruction_450 : decode cX8_readInstruction 450 = .ok (.bastore, 1) := by decide +kernel
theorem dX8_readInstruction_451 : decode cX8_readInstruction 451 = .ok (.aload_n 0, 1) := by decide +kernel
theorem dX8_readInstruction_452 : decode cX8_readInstruction 452 = .ok (.dup, 1) := by decide +kernel
theorem dX8_readInstruction_453 : decode cX8_readInstruction 453 = .ok (.getfield 117, 3) := by decide +kernel
theorem dX8_readInstruction_456 : decode cX8_readInstruction 456 = .ok (.iconst 1, 1) := by decide +kernel
theorem dX8_readInstruction_457 : decode cX8_readInstruction 457 = .ok (.iadd, 1) := by decide +kernel
theorem dX8_readInstruction_458 : decode cX8_readInstruction 458 = .ok (.putfield 117, 3) := by decide +kernel
theorem dX8_readInstruction_461 : decode cX8_readInstruction 461 = .ok (.iload 5, 2) := by decide +kernel
theorem dX8_readInstruction_463 : decode cX8_readInstruction 463 = .ok (.ireturn, 1) := by decide +kernel
end
section
theorem goodIn_co {big a : List Cond} {c : Cond} (hc : c ∈ big) (hg : (c.onTables && c.keeps) = true ∨ ∃ ty, c = .arrayClass ty) (ha : GoodIn big a) : GoodIn big (c :: a) := fun w h => (List.mem_cons.mp h).elim (fun e => by rw [e]; exact ⟨hc, hg⟩) (ha w)
set_option maxRecDepth 20000 in
theorem ggX8_readAll_X8_over : GoodIn wsX8_readAll wsX8_over := goodIn_r _ [13, 6, 14, 15, 16, 12, 17, 8, 18, 19, 20, 21, 22, 23, 70, 71, 72, 73, 74, 75, 76, 77, 78, 79, 80, 81, 82, 83, 84, 85, 86, 87, 88, 89, 90, 91, 92, 93, 94, 95, 96, 97] (by decide +kernel) (by decide +kernel)
set_option maxRecDepth 20000 in
theorem gX8_readAll_X8_over : GoodIn wsX8_readAll (wsV RX8 92 RX8 yX8_over wsX8_over) := goodIn_app (goodIn_of _ (by decide +kernel)) ggX8_readAll_X8_over
set_option maxRecDepth 20000 in
theorem ggX8_readAll_X8_last : GoodIn wsX8_readAll wsX8_last := goodIn_r _ [27, 18, 6, 70, 71, 72, 73, 74, 75, 76, 77, 78, 79, 80, 81, 82, 83, 84, 85, 86, 87, 88, 89, 90, 91, 92, 93, 94, 95, 96, 97] (by decide +kernel) (by decide +kernel)
set_option maxRecDepth 20000 in
theorem gX8_readAll_X8_last : GoodIn wsX8_readAll (wsV RX8 96 RX8 yX8_last wsX8_last) := goodIn_app (goodIn_of _ (by decide +kernel)) ggX8_readAll_X8_last
set_option maxRecDepth 20000 in
theorem ggX8_readAll_X8_readClass : GoodIn wsX8_readAll wsX8_readClass := goodIn_r _ [31, 6, 32, 33, 34, 35, 36, 14, 15, 16, 12, 17, 8, 18, 19, 20, 21, 22, 23, 9, 10, 11, 13, 24, 25, 26, 27, 37, 38, 39, 40, 1, 70, 71, 72, 73, 74, 75, 76, 77, 78, 79, 80, 81, 82, 83, 84, 85, 86, 87, 88, 89, 90, 91, 92, 93, 94, 95, 96, 97] (by decide +kernel) (by decide +kernel)
set_option maxRecDepth 20000 in
theorem gX8_readAll_X8_readClass : GoodIn wsX8_readAll (wsV RX8 120 RX8 yX8_readClass wsX8_readClass) := goodIn_app (goodIn_of _ (by decide +kernel)) ggX8_readAll_X8_readClass
set_option maxRecDepth 20000 in
theorem ggX8_readAll_X8_overClass : GoodIn wsX8_readAll wsX8_overClass := goodIn_r _ [44, 1, 9, 10, 11, 12, 13, 6, 14, 15, 16, 17, 8, 18, 19, 20, 21, 22, 23, 70, 71, 72, 73, 74, 75, 76, 77, 78, 79, 80, 81, 82, 83, 84, 85, 86, 87, 88, 89, 90, 91, 92, 93, 94, 95, 96, 97] (by decide +kernel) (by decide +kernel)
set_option maxRecDepth 20000 in
theorem gX8_readAll_X8_overClass : GoodIn wsX8_readAll (wsV RX8 110 RX8 yX8_overClass wsX8_overClass) := goodIn_app (goodIn_of _ (by decide +kernel)) ggX8_readAll_X8_overClass
set_option maxRecDepth 20000 in
theorem ggX8_readAll_X8_readMethod_1 : GoodIn wsX8_readAll wsX8_readMethod_r1 := goodIn_r _ [1, 6, 4, 49, 5, 50, 51, 52, 53, 54, 55, 56, 14, 15, 16, 12, 17, 8, 18, 19, 20, 21, 22, 23] (by decide +kernel) (by decide +kernel)
set_option maxRecDepth 20000 in
theorem ggX8_readAll_X8_readMethod_2 : GoodIn wsX8_readAll wsX8_readMethod_r2 := goodIn_r _ [9, 10, 11, 13, 24, 25, 26, 27, 37, 38, 39, 40, 57, 58, 59, 60, 61, 62, 63, 64, 33, 35, 65, 66] (by decide +kernel) (by decide +kernel)
set_option maxRecDepth 20000 in
theorem ggX8_readAll_X8_readMethod_3 : GoodIn wsX8_readAll wsX8_readMethod_r3 := goodIn_r _ [67, 68, 69, 41, 42, 43, 44] (by decide +kernel) (by decide +kernel)
set_option maxRecDepth 20000 in
theorem ggX8_readAll_X8_readMethod_0 : GoodIn wsX8_readAll wsX80 := goodIn_r _ [70, 71, 72, 73, 74, 75, 76, 77, 78, 79, 80, 81, 82, 83, 84, 85, 86, 87, 88, 89, 90, 91, 92, 93, 94, 95, 96, 97] (by decide +kernel) (by decide +kernel)
set_option maxRecDepth 20000 in
theorem ggX8_readAll_X8_readMethod : GoodIn wsX8_readAll wsX8_readMethod := goodIn_co (List.mem_of_getElem? (i := 48) rfl) (Or.inl rfl) (goodIn_app (goodIn_app ggX8_readAll_X8_readMethod_1 (goodIn_app ggX8_readAll_X8_readMethod_2 ggX8_readAll_X8_readMethod_3)) ggX8_readAll_X8_readMethod_0)
set_option maxRecDepth 20000 in
theorem gX8_readAll_X8_readMethod : GoodIn wsX8_readAll (wsV RX8 126 RX8 yX8_readMethod wsX8_readMethod) := goodIn_app (goodIn_of _ (by decide +kernel)) ggX8_readAll_X8_readMethod
set_option maxRecDepth 20000 in
theorem ggX8_readAll_X8_here : GoodIn wsX8_readAll wsX8_here := goodIn_r _ [17, 6, 8, 18, 70, 71, 72, 73, 74, 75, 76, 77, 78, 79, 80, 81, 82, 83, 84, 85, 86, 87, 88, 89, 90, 91, 92, 93, 94, 95, 96, 97] (by decide +kernel) (by decide +kernel)
set_option maxRecDepth 20000 in
theorem gX8_readAll_X8_here : GoodIn wsX8_readAll (wsV RX8 81 RX8 yX8_here wsX8_here) := goodIn_app (goodIn_of _ (by decide +kernel)) ggX8_readAll_X8_here
set_option maxRecDepth 20000 in
theorem ggX8_readAll_X8_bad : GoodIn wsX8_readAll wsX8_bad := goodIn_r _ [22, 23, 70, 71, 72, 73, 74, 75, 76, 77, 78, 79, 80, 81, 82, 83, 84, 85, 86, 87, 88, 89, 90, 91, 92, 93, 94, 95, 96, 97] (by decide +kernel) (by decide +kernel)
set_option maxRecDepth 20000 in
theorem gX8_readAll_X8_bad : GoodIn wsX8_readAll (wsV RX8 85 RX8 yX8_bad wsX8_bad) := goodIn_app (goodIn_of _ (by decide +kernel)) ggX8_readAll_X8_bad
theorem dX8_readAll_0 : decode cX8_readAll 0 = .ok (.aload_n 0, 1) := by decide +kernel
theorem dX8_readAll_1 : decode cX8_readAll 1 = .ok (.iconst 1, 1) := by decide +kernel
theorem dX8_readAll_2 : decode cX8_readAll 2 = .ok (.bipush 32, 2) := by decide +kernel
theorem dX8_readAll_4 : decode cX8_readAll 4 = .ok (.invokevirtual 92, 3) := by decide +kernel
theorem dX8_readAll_7 : decode cX8_readAll 7 = .ok (.ifCond .ne 5, 3) := by decide +kernel
theorem dX8_readAll_10 : decode cX8_readAll 10 = .ok (.iconst 0, 1) := by decide +kernel
theorem dX8_readAll_11 : decode cX8_readAll 11 = .ok (.ireturn, 1) := by decide +kernel
theorem dX8_readAll_12 : decode cX8_readAll 12 = .ok (.aload_n 0, 1) := by decide +kernel
theorem dX8_readAll_13 : decode cX8_readAll 13 = .ok (.aload_n 0, 1) := by decide +kernel
theorem dX8_readAll_14 : decode cX8_readAll 14 = .ok (.invokevirtual 96, 3) := by decide +kernel
theorem dX8_readAll_17 : decode cX8_readAll 17 = .ok (.putfield 89, 3) := by decide +kernel
theorem dX8_readAll_20 : decode cX8_readAll 20 = .ok (.iconst 0, 1) := by decide +kernel
theorem dX8_readAll_21 : decode cX8_readAll 21 = .ok (.istore_n 1, 1) := by decide +kernel
theorem dX8_readAll_22 : decode cX8_readAll 22 = .ok (.iload_n 1, 1) := by decide +kernel
theorem dX8_readAll_23 : decode cX8_readAll 23 = .ok (.aload_n 0, 1) := by decide +kernel
theorem dX8_readAll_24 : decode cX8_readAll 24 = .ok (.getfield 89, 3) := by decide +kernel
theorem dX8_readAll_27 : decode cX8_readAll 27 = .ok (.if_icmp .ge 19, 3) := by decide +kernel
theorem dX8_readAll_30 : decode cX8_readAll 30 = .ok (.aload_n 0, 1) := by decide +kernel
theorem dX8_readAll_31 : decode cX8_readAll 31 = .ok (.iload_n 1, 1) := by decide +kernel
theorem dX8_readAll_32 : decode cX8_readAll 32 = .ok (.invokevirtual 120, 3) := by decide +kernel
theorem dX8_readAll_35 : decode cX8_readAll 35 = .ok (.ifCond .ne 5, 3) := by decide +kernel
theorem dX8_readAll_38 : decode cX8_readAll 38 = .ok (.iconst 0, 1) := by decide +kernel
theorem dX8_readAll_39 : decode cX8_readAll 39 = .ok (.ireturn, 1) := by decide +kernel
theorem dX8_readAll_40 : decode cX8_readAll 40 = .ok (.iinc 1 1, 3) := by decide +kernel
theorem dX8_readAll_43 : decode cX8_readAll 43 = .ok (.goto (-21), 3) := by decide +kernel
theorem dX8_readAll_46 : decode cX8_readAll 46 = .ok (.iconst 0, 1) := by decide +kernel
theorem dX8_readAll_47 : decode cX8_readAll 47 = .ok (.istore_n 1, 1) := by decide +kernel
theorem dX8_readAll_48 : decode cX8_readAll 48 = .ok (.iload_n 1, 1) := by decide +kernel
theorem dX8_readAll_49 : decode cX8_readAll 49 = .ok (.iconst 5, 1) := by decide +kernel
theorem dX8_readAll_50 : decode cX8_readAll 50 = .ok (.if_icmp .ge 28, 3) := by decide +kernel
theorem dX8_readAll_53 : decode cX8_readAll 53 = .ok (.aload_n 0, 1) := by decide +kernel
theorem dX8_readAll_54 : decode cX8_readAll 54 = .ok (.invokevirtual 110, 3) := by decide +kernel
theorem dX8_readAll_57 : decode cX8_readAll 57 = .ok (.ifCond .ne 5, 3) := by decide +kernel
theorem dX8_readAll_60 : decode cX8_readAll 60 = .ok (.iconst 0, 1) := by decide +kernel
theorem dX8_readAll_61 : decode cX8_readAll 61 = .ok (.ireturn, 1) := by decide +kernel
theorem dX8_readAll_62 : decode cX8_readAll 62 = .ok (.aload_n 0, 1) := by decide +kernel
theorem dX8_readAll_63 : decode cX8_readAll 63 = .ok (.getfield 35, 3) := by decide +kernel
theorem dX8_readAll_66 : decode cX8_readAll 66 = .ok (.iload_n 1, 1) := by decide +kernel
theorem dX8_readAll_67 : decode cX8_readAll 67 = .ok (.aload_n 0, 1) := by decide +kernel
theorem dX8_readAll_68 : decode cX8_readAll 68 = .ok (.invokevirtual 96, 3) := by decide +kernel
theorem dX8_readAll_71 : decode cX8_readAll 71 = .ok (.iastore, 1) := by decide +kernel
theorem dX8_readAll_72 : decode cX8_readAll 72 = .ok (.iinc 1 1, 3) := by decide +kernel
theorem dX8_readAll_75 : decode cX8_readAll 75 = .ok (.goto (-27), 3) := by decide +kernel
theorem dX8_readAll_78 : decode cX8_readAll 78 = .ok (.aload_n 0, 1) := by decide +kernel
theorem dX8_readAll_79 : decode cX8_readAll 79 = .ok (.iconst 1, 1) := by decide +kernel
theorem dX8_readAll_80 : decode cX8_readAll 80 = .ok (.bipush 64, 2) := by decide +kernel
theorem dX8_readAll_82 : decode cX8_readAll 82 = .ok (.invokevirtual 92, 3) := by decide +kernel
theorem dX8_readAll_85 : decode cX8_readAll 85 = .ok (.ifCond .ne 5, 3) := by decide +kernel
theorem dX8_readAll_88 : decode cX8_readAll 88 = .ok (.iconst 0, 1) := by decide +kernel
theorem dX8_readAll_89 : decode cX8_readAll 89 = .ok (.ireturn, 1) := by decide +kernel
theorem dX8_readAll_90 : decode cX8_readAll 90 = .ok (.aload_n 0, 1) := by decide +kernel
theorem dX8_readAll_91 : decode cX8_readAll 91 = .ok (.aload_n 0, 1) := by decide +kernel
theorem dX8_readAll_92 : decode cX8_readAll 92 = .ok (.invokevirtual 96, 3) := by decide +kernel
theorem dX8_readAll_95 : decode cX8_readAll 95 = .ok (.putfield 123, 3) := by decide +kernel
theorem dX8_readAll_98 : decode cX8_readAll 98 = .ok (.iconst 0, 1) := by decide +kernel
theorem dX8_readAll_99 : decode cX8_readAll 99 = .ok (.istore_n 1, 1) := by decide +kernel
theorem dX8_readAll_100 : decode cX8_readAll 100 = .ok (.iload_n 1, 1) := by decide +kernel
theorem dX8_readAll_101 : decode cX8_readAll 101 = .ok (.aload_n 0, 1) := by decide +kernel
theorem dX8_readAll_102 : decode cX8_readAll 102 = .ok (.getfield 123, 3) := by decide +kernel
theorem dX8_readAll_105 : decode cX8_readAll 105 = .ok (.if_icmp .ge 19, 3) := by decide +kernel
theorem dX8_readAll_108 : decode cX8_readAll 108 = .ok (.aload_n 0, 1) := by decide +kernel
theorem dX8_readAll_109 : decode cX8_readAll 109 = .ok (.iload_n 1, 1) := by decide +kernel
theorem dX8_readAll_110 : decode cX8_readAll 110 = .ok (.invokevirtual 126, 3) := by decide +kernel
theorem dX8_readAll_113 : decode cX8_readAll 113 = .ok (.ifCond .ne 5, 3) := by decide +kernel
theorem dX8_readAll_116 : decode cX8_readAll 116 = .ok (.iconst 0, 1) := by decide +kernel
theorem dX8_readAll_117 : decode cX8_readAll 117 = .ok (.ireturn, 1) := by decide +kernel
theorem dX8_readAll_118 : decode cX8_readAll 118 = .ok (.iinc 1 1, 3) := by decide +kernel
theorem dX8_readAll_121 : decode cX8_readAll 121 = .ok (.goto (-21), 3) := by decide +kernel
theorem dX8_readAll_124 : decode cX8_readAll 124 = .ok (.aload_n 0, 1) := by decide +kernel
theorem dX8_readAll_125 : decode cX8_readAll 125 = .ok (.invokevirtual 81, 3) := by decide +kernel
theorem dX8_readAll_128 : decode cX8_readAll 128 = .ok (.istore_n 1, 1) := by decide +kernel
theorem dX8_readAll_129 : decode cX8_readAll 129 = .ok (.iload_n 1, 1) := by decide +kernel
theorem dX8_readAll_130 : decode cX8_readAll 130 = .ok (.aload_n 0, 1) := by decide +kernel
theorem dX8_readAll_131 : decode cX8_readAll 131 = .ok (.getfield 123, 3) := by decide +kernel
theorem dX8_readAll_134 : decode cX8_readAll 134 = .ok (.if_icmp .ge 22, 3) := by decide +kernel
theorem dX8_readAll_137 : decode cX8_readAll 137 = .ok (.aload_n 0, 1) := by decide +kernel
theorem dX8_readAll_138 : decode cX8_readAll 138 = .ok (.getfield 38, 3) := by decide +kernel
theorem dX8_readAll_141 : decode cX8_readAll 141 = .ok (.iload_n 1, 1) := by decide +kernel
theorem dX8_readAll_142 : decode cX8_readAll 142 = .ok (.iaload, 1) := by decide +kernel
theorem dX8_readAll_143 : decode cX8_readAll 143 = .ok (.iconst (-1), 1) := by decide +kernel
theorem dX8_readAll_144 : decode cX8_readAll 144 = .ok (.if_icmp .ne 12, 3) := by decide +kernel
theorem dX8_readAll_147 : decode cX8_readAll 147 = .ok (.aload_n 0, 1) := by decide +kernel
theorem dX8_readAll_148 : decode cX8_readAll 148 = .ok (.getfield 41, 3) := by decide +kernel
theorem dX8_readAll_151 : decode cX8_readAll 151 = .ok (.iload_n 1, 1) := by decide +kernel
theorem dX8_readAll_152 : decode cX8_readAll 152 = .ok (.iaload, 1) := by decide +kernel
theorem dX8_readAll_153 : decode cX8_readAll 153 = .ok (.ifCond .le 12, 3) := by decide +kernel
theorem dX8_readAll_156 : decode cX8_readAll 156 = .ok (.aload_n 0, 1) := by decide +kernel
theorem dX8_readAll_157 : decode cX8_readAll 157 = .ok (.aload_n 0, 1) := by decide +kernel
theorem dX8_readAll_158 : decode cX8_readAll 158 = .ok (.getfield 75, 3) := by decide +kernel
theorem dX8_readAll_161 : decode cX8_readAll 161 = .ok (.invokevirtual 85, 3) := by decide +kernel
theorem dX8_readAll_164 : decode cX8_readAll 164 = .ok (.ireturn, 1) := by decide +kernel
theorem dX8_readAll_165 : decode cX8_readAll 165 = .ok (.aload_n 0, 1) := by decide +kernel
theorem dX8_readAll_166 : decode cX8_readAll 166 = .ok (.iload_n 1, 1) := by decide +kernel
theorem dX8_readAll_167 : decode cX8_readAll 167 = .ok (.putfield 129, 3) := by decide +kernel
theorem dX8_readAll_170 : decode cX8_readAll 170 = .ok (.aload_n 0, 1) := by decide +kernel
theorem dX8_readAll_171 : decode cX8_readAll 171 = .ok (.dup, 1) := by decide +kernel
theorem dX8_readAll_172 : decode cX8_readAll 172 = .ok (.getfield 75, 3) := by decide +kernel
theorem dX8_readAll_175 : decode cX8_readAll 175 = .ok (.iconst 1, 1) := by decide +kernel
theorem dX8_readAll_176 : decode cX8_readAll 176 = .ok (.iadd, 1) := by decide +kernel
theorem dX8_readAll_177 : decode cX8_readAll 177 = .ok (.putfield 75, 3) := by decide +kernel
theorem dX8_readAll_180 : decode cX8_readAll 180 = .ok (.aload_n 0, 1) := by decide +kernel
theorem dX8_readAll_181 : decode cX8_readAll 181 = .ok (.getfield 75, 3) := by decide +kernel
theorem dX8_readAll_184 : decode cX8_readAll 184 = .ok (.aload_n 0, 1) := by decide +kernel
theorem dX8_readAll_185 : decode cX8_readAll 185 = .ok (.getfield 78, 3) := by decide +kernel
theorem dX8_readAll_188 : decode cX8_readAll 188 = .ok (.if_icmp .eq 14, 3) := by decide +kernel
theorem dX8_readAll_191 : decode cX8_readAll 191 = .ok (.aload_n 0, 1) := by decide +kernel
theorem dX8_readAll_192 : decode cX8_readAll 192 = .ok (.aload_n 0, 1) := by decide +kernel
theorem dX8_readAll_193 : decode cX8_readAll 193 = .ok (.getfield 75, 3) := by decide +kernel
theorem dX8_readAll_196 : decode cX8_readAll 196 = .ok (.invokevirtual 85, 3) := by decide +kernel
theorem dX8_readAll_199 : decode cX8_readAll 199 = .ok (.ifCond .eq 7, 3) := by decide +kernel
theorem dX8_readAll_202 : decode cX8_readAll 202 = .ok (.iconst 1, 1) := by decide +kernel
theorem dX8_readAll_203 : decode cX8_readAll 203 = .ok (.goto 4, 3) := by decide +kernel
theorem dX8_readAll_206 : decode cX8_readAll 206 = .ok (.iconst 0, 1) := by decide +kernel
theorem dX8_readAll_207 : decode cX8_readAll 207 = .ok (.ireturn, 1) := by decide +kernel
theorem dX8_note_0 : decode cX8_note 0 = .ok (.aload_n 0, 1) := by decide +kernel
theorem dX8_note_1 : decode cX8_note 1 = .ok (.iload_n 2, 1) := by decide +kernel
theorem dX8_note_2 : decode cX8_note 2 = .ok (.ifCond .ne 22, 3) := by decide +kernel
theorem dX8_note_5 : decode cX8_note 5 = .ok (.aload_n 0, 1) := by decide +kernel
theorem dX8_note_6 : decode cX8_note 6 = .ok (.getfield 72, 3) := by decide +kernel
theorem dX8_note_9 : decode cX8_note 9 = .ok (.ifCond .lt 11, 3) := by decide +kernel
theorem dX8_note_12 : decode cX8_note 12 = .ok (.iload_n 1, 1) := by decide +kernel
theorem dX8_note_13 : decode cX8_note 13 = .ok (.aload_n 0, 1) := by decide +kernel
theorem dX8_note_14 : decode cX8_note 14 = .ok (.getfield 72, 3) := by decide +kernel
theorem dX8_note_17 : decode cX8_note 17 = .ok (.if_icmp .ge 7, 3) := by decide +kernel
theorem dX8_note_20 : decode cX8_note 20 = .ok (.iload_n 1, 1) := by decide +kernel
theorem dX8_note_21 : decode cX8_note 21 = .ok (.goto 7, 3) := by decide +kernel
theorem dX8_note_24 : decode cX8_note 24 = .ok (.aload_n 0, 1) := by decide +kernel
theorem dX8_note_25 : decode cX8_note 25 = .ok (.getfield 72, 3) := by decide +kernel
theorem dX8_note_28 : decode cX8_note 28 = .ok (.putfield 72, 3) := by decide +kernel
theorem dX8_note_31 : decode cX8_note 31 = .ok (.return_, 1) := by decide +kernel
theorem dX8_isBegin_0 : decode cX8_isBegin 0 = .ok (.iload_n 2, 1) := by decide +kernel
theorem dX8_isBegin_1 : decode cX8_isBegin 1 = .ok (.aload_n 0, 1) := by decide +kernel
theorem dX8_isBegin_2 : decode cX8_isBegin 2 = .ok (.getfield 59, 3) := by decide +kernel
theorem dX8_isBegin_5 : decode cX8_isBegin 5 = .ok (.iload_n 1, 1) := by decide +kernel
theorem dX8_isBegin_6 : decode cX8_isBegin 6 = .ok (.iaload, 1) := by decide +kernel
theorem dX8_isBegin_7 : decode cX8_isBegin 7 = .ok (.if_icmp .ge 23, 3) := by decide +kernel
theorem dX8_isBegin_10 : decode cX8_isBegin 10 = .ok (.aload_n 0, 1) := by decide +kernel
theorem dX8_isBegin_11 : decode cX8_isBegin 11 = .ok (.getfield 16, 3) := by decide +kernel
theorem dX8_isBegin_14 : decode cX8_isBegin 14 = .ok (.aload_n 0, 1) := by decide +kernel
theorem dX8_isBegin_15 : decode cX8_isBegin 15 = .ok (.getfield 56, 3) := by decide +kernel
theorem dX8_isBegin_18 : decode cX8_isBegin 18 = .ok (.iload_n 1, 1) := by decide +kernel
theorem dX8_isBegin_19 : decode cX8_isBegin 19 = .ok (.iaload, 1) := by decide +kernel
theorem dX8_isBegin_20 : decode cX8_isBegin 20 = .ok (.iload_n 2, 1) := by decide +kernel
theorem dX8_isBegin_21 : decode cX8_isBegin 21 = .ok (.iadd, 1) := by decide +kernel
theorem dX8_isBegin_22 : decode cX8_isBegin 22 = .ok (.baload, 1) := by decide +kernel
theorem dX8_isBegin_23 : decode cX8_isBegin 23 = .ok (.ifCond .eq 7, 3) := by decide +kernel
theorem dX8_isBegin_26 : decode cX8_isBegin 26 = .ok (.iconst 1, 1) := by decide +kernel
theorem dX8_isBegin_27 : decode cX8_isBegin 27 = .ok (.goto 4, 3) := by decide +kernel
theorem dX8_isBegin_30 : decode cX8_isBegin 30 = .ok (.iconst 0, 1) := by decide +kernel
theorem dX8_isBegin_31 : decode cX8_isBegin 31 = .ok (.ireturn, 1) := by decide +kernel
theorem dX8_isLike_0 : decode cX8_isLike 0 = .ok (.aload_n 0, 1) := by decide +kernel
theorem dX8_isLike_1 : decode cX8_isLike 1 = .ok (.getfield 41, 3) := by decide +kernel
theorem dX8_isLike_4 : decode cX8_isLike 4 = .ok (.iload_n 1, 1) := by decide +kernel
theorem dX8_isLike_5 : decode cX8_isLike 5 = .ok (.iaload, 1) := by decide +kernel
theorem dX8_isLike_6 : decode cX8_isLike 6 = .ok (.aload_n 0, 1) := by decide +kernel
theorem dX8_isLike_7 : decode cX8_isLike 7 = .ok (.getfield 41, 3) := by decide +kernel
theorem dX8_isLike_10 : decode cX8_isLike 10 = .ok (.iload_n 2, 1) := by decide +kernel
theorem dX8_isLike_11 : decode cX8_isLike 11 = .ok (.iaload, 1) := by decide +kernel
theorem dX8_isLike_12 : decode cX8_isLike 12 = .ok (.if_icmp .ne 22, 3) := by decide +kernel
theorem dX8_isLike_15 : decode cX8_isLike 15 = .ok (.aload_n 0, 1) := by decide +kernel
theorem dX8_isLike_16 : decode cX8_isLike 16 = .ok (.getfield 47, 3) := by decide +kernel
theorem dX8_isLike_19 : decode cX8_isLike 19 = .ok (.iload_n 1, 1) := by decide +kernel
theorem dX8_isLike_20 : decode cX8_isLike 20 = .ok (.iaload, 1) := by decide +kernel
theorem dX8_isLike_21 : decode cX8_isLike 21 = .ok (.aload_n 0, 1) := by decide +kernel
theorem dX8_isLike_22 : decode cX8_isLike 22 = .ok (.getfield 47, 3) := by decide +kernel
theorem dX8_isLike_25 : decode cX8_isLike 25 = .ok (.iload_n 2, 1) := by decide +kernel
theorem dX8_isLike_26 : decode cX8_isLike 26 = .ok (.iaload, 1) := by decide +kernel
theorem dX8_isLike_27 : decode cX8_isLike 27 = .ok (.if_icmp .ne 7, 3) := by decide +kernel
theorem dX8_isLike_30 : decode cX8_isLike 30 = .ok (.iconst 1, 1) := by decide +kernel
theorem dX8_isLike_31 : decode cX8_isLike 31 = .ok (.goto 4, 3) := by decide +kernel
theorem dX8_isLike_34 : decode cX8_isLike 34 = .ok (.iconst 0, 1) := by decide +kernel
theorem dX8_isLike_35 : decode cX8_isLike 35 = .ok (.istore_n 3, 1) := by decide +kernel
theorem dX8_isLike_36 : decode cX8_isLike 36 = .ok (.iconst 1, 1) := by decide +kernel
theorem dX8_isLike_37 : decode cX8_isLike 37 = .ok (.istore 4, 2) := by decide +kernel
theorem dX8_isLike_39 : decode cX8_isLike 39 = .ok (.iload 4, 2) := by decide +kernel
theorem dX8_isLike_41 : decode cX8_isLike 41 = .ok (.aload_n 0, 1) := by decide +kernel
theorem dX8_isLike_42 : decode cX8_isLike 42 = .ok (.getfield 41, 3) := by decide +kernel
theorem dX8_isLike_45 : decode cX8_isLike 45 = .ok (.iload_n 1, 1) := by decide +kernel
theorem dX8_isLike_46 : decode cX8_isLike 46 = .ok (.iaload, 1) := by decide +kernel
theorem dX8_isLike_47 : decode cX8_isLike 47 = .ok (.if_icmp .ge 46, 3) := by decide +kernel
theorem dX8_isLike_50 : decode cX8_isLike 50 = .ok (.iload_n 3, 1) := by decide +kernel
theorem dX8_isLike_51 : decode cX8_isLike 51 = .ok (.ifCond .eq 42, 3) := by decide +kernel
theorem dX8_isLike_54 : decode cX8_isLike 54 = .ok (.aload_n 0, 1) := by decide +kernel
theorem dX8_isLike_55 : decode cX8_isLike 55 = .ok (.getfield 44, 3) := by decide +kernel
theorem dX8_isLike_58 : decode cX8_isLike 58 = .ok (.bipush 8, 2) := by decide +kernel
theorem dX8_isLike_60 : decode cX8_isLike 60 = .ok (.iload_n 1, 1) := by decide +kernel
theorem dX8_isLike_61 : decode cX8_isLike 61 = .ok (.imul, 1) := by decide +kernel
theorem dX8_isLike_62 : decode cX8_isLike 62 = .ok (.iload 4, 2) := by decide +kernel
theorem dX8_isLike_64 : decode cX8_isLike 64 = .ok (.iadd, 1) := by decide +kernel
theorem dX8_isLike_65 : decode cX8_isLike 65 = .ok (.iaload, 1) := by decide +kernel
theorem dX8_isLike_66 : decode cX8_isLike 66 = .ok (.aload_n 0, 1) := by decide +kernel
theorem dX8_isLike_67 : decode cX8_isLike 67 = .ok (.getfield 44, 3) := by decide +kernel
theorem dX8_isLike_70 : decode cX8_isLike 70 = .ok (.bipush 8, 2) := by decide +kernel
theorem dX8_isLike_72 : decode cX8_isLike 72 = .ok (.iload_n 2, 1) := by decide +kernel
theorem dX8_isLike_73 : decode cX8_isLike 73 = .ok (.imul, 1) := by decide +kernel
theorem dX8_isLike_74 : decode cX8_isLike 74 = .ok (.iload 4, 2) := by decide +kernel
theorem dX8_isLike_76 : decode cX8_isLike 76 = .ok (.iadd, 1) := by decide +kernel
theorem dX8_isLike_77 : decode cX8_isLike 77 = .ok (.iaload, 1) := by decide +kernel
theorem dX8_isLike_78 : decode cX8_isLike 78 = .ok (.if_icmp .ne 7, 3) := by decide +kernel
theorem dX8_isLike_81 : decode cX8_isLike 81 = .ok (.iconst 1, 1) := by decide +kernel
theorem dX8_isLike_82 : decode cX8_isLike 82 = .ok (.goto 4, 3) := by decide +kernel
theorem dX8_isLike_85 : decode cX8_isLike 85 = .ok (.iconst 0, 1) := by decide +kernel
theorem dX8_isLike_86 : decode cX8_isLike 86 = .ok (.istore_n 3, 1) := by decide +kernel
theorem dX8_isLike_87 : decode cX8_isLike 87 = .ok (.iinc 4 1, 3) := by decide +kernel
theorem dX8_isLike_90 : decode cX8_isLike 90 = .ok (.goto (-51), 3) := by decide +kernel
theorem dX8_isLike_93 : decode cX8_isLike 93 = .ok (.iload_n 3, 1) := by decide +kernel
theorem dX8_isLike_94 : decode cX8_isLike 94 = .ok (.ireturn, 1) := by decide +kernel
set_option maxRecDepth 20000 in
theorem ggX8_checkSlots_X8_isLike : GoodIn wsX8_checkSlots wsX8_isLike := goodIn_r _ [11, 12, 13, 14, 20, 21, 22, 23, 24, 25, 26, 27, 28, 29, 30, 31, 32, 33, 34, 35, 36, 37, 38, 39, 40, 41, 42, 43, 44, 45, 46, 47] (by decide +kernel) (by decide +kernel)
set_option maxRecDepth 20000 in
theorem gX8_checkSlots_X8_isLike : GoodIn wsX8_checkSlots (wsV RX8 132 RX8 yX8_isLike wsX8_isLike) := goodIn_app (goodIn_of _ (by decide +kernel)) ggX8_checkSlots_X8_isLike
set_option maxRecDepth 20000 in
theorem ggX8_checkSlots_X8_note : GoodIn wsX8_checkSlots wsX8_note := goodIn_r _ [18, 19, 20, 21, 22, 23, 24, 25, 26, 27, 28, 29, 30, 31, 32, 33, 34, 35, 36, 37, 38, 39, 40, 41, 42, 43, 44, 45, 46, 47] (by decide +kernel) (by decide +kernel)
set_option maxRecDepth 20000 in
theorem gX8_checkSlots_X8_note : GoodIn wsX8_checkSlots (wsV RX8 135 RX8 yX8_note wsX8_note) := goodIn_app (goodIn_of _ (by decide +kernel)) ggX8_checkSlots_X8_note
theorem dX8_checkSlots_0 : decode cX8_checkSlots 0 = .ok (.iconst 0, 1) := by decide +kernel
theorem dX8_checkSlots_1 : decode cX8_checkSlots 1 = .ok (.istore_n 1, 1) := by decide +kernel
theorem dX8_checkSlots_2 : decode cX8_checkSlots 2 = .ok (.iload_n 1, 1) := by decide +kernel
theorem dX8_checkSlots_3 : decode cX8_checkSlots 3 = .ok (.bipush 16, 2) := by decide +kernel
theorem dX8_checkSlots_5 : decode cX8_checkSlots 5 = .ok (.aload_n 0, 1) := by decide +kernel
theorem dX8_checkSlots_6 : decode cX8_checkSlots 6 = .ok (.getfield 89, 3) := by decide +kernel
theorem dX8_checkSlots_9 : decode cX8_checkSlots 9 = .ok (.imul, 1) := by decide +kernel
theorem dX8_checkSlots_10 : decode cX8_checkSlots 10 = .ok (.if_icmp .ge 127, 3) := by decide +kernel
theorem dX8_checkSlots_13 : decode cX8_checkSlots 13 = .ok (.iload_n 1, 1) := by decide +kernel
theorem dX8_checkSlots_14 : decode cX8_checkSlots 14 = .ok (.bipush 16, 2) := by decide +kernel
theorem dX8_checkSlots_16 : decode cX8_checkSlots 16 = .ok (.idiv, 1) := by decide +kernel
theorem dX8_checkSlots_17 : decode cX8_checkSlots 17 = .ok (.istore_n 2, 1) := by decide +kernel
theorem dX8_checkSlots_18 : decode cX8_checkSlots 18 = .ok (.aload_n 0, 1) := by decide +kernel
theorem dX8_checkSlots_19 : decode cX8_checkSlots 19 = .ok (.getfield 29, 3) := by decide +kernel
theorem dX8_checkSlots_22 : decode cX8_checkSlots 22 = .ok (.iload_n 1, 1) := by decide +kernel
theorem dX8_checkSlots_23 : decode cX8_checkSlots 23 = .ok (.iaload, 1) := by decide +kernel
theorem dX8_checkSlots_24 : decode cX8_checkSlots 24 = .ok (.istore_n 3, 1) := by decide +kernel
theorem dX8_checkSlots_25 : decode cX8_checkSlots 25 = .ok (.aload_n 0, 1) := by decide +kernel
theorem dX8_checkSlots_26 : decode cX8_checkSlots 26 = .ok (.getfield 32, 3) := by decide +kernel
theorem dX8_checkSlots_29 : decode cX8_checkSlots 29 = .ok (.iload_n 1, 1) := by decide +kernel
theorem dX8_checkSlots_30 : decode cX8_checkSlots 30 = .ok (.iaload, 1) := by decide +kernel
theorem dX8_checkSlots_31 : decode cX8_checkSlots 31 = .ok (.iconst (-1), 1) := by decide +kernel
theorem dX8_checkSlots_32 : decode cX8_checkSlots 32 = .ok (.if_icmp .eq 99, 3) := by decide +kernel
theorem dX8_checkSlots_35 : decode cX8_checkSlots 35 = .ok (.aload_n 0, 1) := by decide +kernel
theorem dX8_checkSlots_36 : decode cX8_checkSlots 36 = .ok (.getfield 20, 3) := by decide +kernel
theorem dX8_checkSlots_39 : decode cX8_checkSlots 39 = .ok (.iload_n 2, 1) := by decide +kernel
theorem dX8_checkSlots_40 : decode cX8_checkSlots 40 = .ok (.iaload, 1) := by decide +kernel
theorem dX8_checkSlots_41 : decode cX8_checkSlots 41 = .ok (.ifCond .ge 7, 3) := by decide +kernel
theorem dX8_checkSlots_44 : decode cX8_checkSlots 44 = .ok (.iconst (-1), 1) := by decide +kernel
theorem dX8_checkSlots_45 : decode cX8_checkSlots 45 = .ok (.goto 22, 3) := by decide +kernel
theorem dX8_checkSlots_48 : decode cX8_checkSlots 48 = .ok (.aload_n 0, 1) := by decide +kernel
theorem dX8_checkSlots_49 : decode cX8_checkSlots 49 = .ok (.getfield 29, 3) := by decide +kernel
theorem dX8_checkSlots_52 : decode cX8_checkSlots 52 = .ok (.bipush 16, 2) := by decide +kernel
theorem dX8_checkSlots_54 : decode cX8_checkSlots 54 = .ok (.aload_n 0, 1) := by decide +kernel
theorem dX8_checkSlots_55 : decode cX8_checkSlots 55 = .ok (.getfield 20, 3) := by decide +kernel
theorem dX8_checkSlots_58 : decode cX8_checkSlots 58 = .ok (.iload_n 2, 1) := by decide +kernel
theorem dX8_checkSlots_59 : decode cX8_checkSlots 59 = .ok (.iaload, 1) := by decide +kernel
theorem dX8_checkSlots_60 : decode cX8_checkSlots 60 = .ok (.imul, 1) := by decide +kernel
theorem dX8_checkSlots_61 : decode cX8_checkSlots 61 = .ok (.iload_n 1, 1) := by decide +kernel
theorem dX8_checkSlots_62 : decode cX8_checkSlots 62 = .ok (.bipush 16, 2) := by decide +kernel
theorem dX8_checkSlots_64 : decode cX8_checkSlots 64 = .ok (.irem, 1) := by decide +kernel
theorem dX8_checkSlots_65 : decode cX8_checkSlots 65 = .ok (.iadd, 1) := by decide +kernel
theorem dX8_checkSlots_66 : decode cX8_checkSlots 66 = .ok (.iaload, 1) := by decide +kernel
theorem dX8_checkSlots_67 : decode cX8_checkSlots 67 = .ok (.istore 4, 2) := by decide +kernel
theorem dX8_checkSlots_69 : decode cX8_checkSlots 69 = .ok (.iload_n 3, 1) := by decide +kernel
theorem dX8_checkSlots_70 : decode cX8_checkSlots 70 = .ok (.aload_n 0, 1) := by decide +kernel
theorem dX8_checkSlots_71 : decode cX8_checkSlots 71 = .ok (.getfield 123, 3) := by decide +kernel
theorem dX8_checkSlots_74 : decode cX8_checkSlots 74 = .ok (.if_icmp .ge 42, 3) := by decide +kernel
theorem dX8_checkSlots_77 : decode cX8_checkSlots 77 = .ok (.aload_n 0, 1) := by decide +kernel
theorem dX8_checkSlots_78 : decode cX8_checkSlots 78 = .ok (.getfield 38, 3) := by decide +kernel
theorem dX8_checkSlots_81 : decode cX8_checkSlots 81 = .ok (.iload_n 3, 1) := by decide +kernel
theorem dX8_checkSlots_82 : decode cX8_checkSlots 82 = .ok (.iaload, 1) := by decide +kernel
theorem dX8_checkSlots_83 : decode cX8_checkSlots 83 = .ok (.iload_n 2, 1) := by decide +kernel
theorem dX8_checkSlots_84 : decode cX8_checkSlots 84 = .ok (.if_icmp .ne 32, 3) := by decide +kernel
theorem dX8_checkSlots_87 : decode cX8_checkSlots 87 = .ok (.iload 4, 2) := by decide +kernel
theorem dX8_checkSlots_89 : decode cX8_checkSlots 89 = .ok (.iconst (-1), 1) := by decide +kernel
theorem dX8_checkSlots_90 : decode cX8_checkSlots 90 = .ok (.if_icmp .eq 22, 3) := by decide +kernel
theorem dX8_checkSlots_93 : decode cX8_checkSlots 93 = .ok (.iload 4, 2) := by decide +kernel
theorem dX8_checkSlots_95 : decode cX8_checkSlots 95 = .ok (.aload_n 0, 1) := by decide +kernel
theorem dX8_checkSlots_96 : decode cX8_checkSlots 96 = .ok (.getfield 123, 3) := by decide +kernel
theorem dX8_checkSlots_99 : decode cX8_checkSlots 99 = .ok (.if_icmp .ge 13, 3) := by decide +kernel
theorem dX8_checkSlots_102 : decode cX8_checkSlots 102 = .ok (.aload_n 0, 1) := by decide +kernel
theorem dX8_checkSlots_103 : decode cX8_checkSlots 103 = .ok (.iload_n 3, 1) := by decide +kernel
theorem dX8_checkSlots_104 : decode cX8_checkSlots 104 = .ok (.iload 4, 2) := by decide +kernel
theorem dX8_checkSlots_106 : decode cX8_checkSlots 106 = .ok (.invokevirtual 132, 3) := by decide +kernel
theorem dX8_checkSlots_109 : decode cX8_checkSlots 109 = .ok (.ifCond .eq 7, 3) := by decide +kernel
theorem dX8_checkSlots_112 : decode cX8_checkSlots 112 = .ok (.iconst 1, 1) := by decide +kernel
theorem dX8_checkSlots_113 : decode cX8_checkSlots 113 = .ok (.goto 4, 3) := by decide +kernel
theorem dX8_checkSlots_116 : decode cX8_checkSlots 116 = .ok (.iconst 0, 1) := by decide +kernel
theorem dX8_checkSlots_117 : decode cX8_checkSlots 117 = .ok (.istore 5, 2) := by decide +kernel
theorem dX8_checkSlots_119 : decode cX8_checkSlots 119 = .ok (.aload_n 0, 1) := by decide +kernel
theorem dX8_checkSlots_120 : decode cX8_checkSlots 120 = .ok (.aload_n 0, 1) := by decide +kernel
theorem dX8_checkSlots_121 : decode cX8_checkSlots 121 = .ok (.getfield 32, 3) := by decide +kernel
theorem dX8_checkSlots_124 : decode cX8_checkSlots 124 = .ok (.iload_n 1, 1) := by decide +kernel
theorem dX8_checkSlots_125 : decode cX8_checkSlots 125 = .ok (.iaload, 1) := by decide +kernel
theorem dX8_checkSlots_126 : decode cX8_checkSlots 126 = .ok (.iload 5, 2) := by decide +kernel
theorem dX8_checkSlots_128 : decode cX8_checkSlots 128 = .ok (.invokevirtual 135, 3) := by decide +kernel
theorem dX8_checkSlots_131 : decode cX8_checkSlots 131 = .ok (.iinc 1 1, 3) := by decide +kernel
theorem dX8_checkSlots_134 : decode cX8_checkSlots 134 = .ok (.goto (-132), 3) := by decide +kernel
theorem dX8_checkSlots_137 : decode cX8_checkSlots 137 = .ok (.return_, 1) := by decide +kernel
set_option maxRecDepth 20000 in
theorem ggX8_checkCode_X8_two : GoodIn wsX8_checkCode wsX8_two := goodIn_r _ [12, 4, 22, 23, 24, 25, 26, 27, 28, 29, 30, 31, 32, 33, 34, 35, 36, 37, 38, 39, 40, 41, 42, 43, 44, 45, 46, 47, 48, 49] (by decide +kernel) (by decide +kernel)
set_option maxRecDepth 20000 in
theorem gX8_checkCode_X8_two : GoodIn wsX8_checkCode (wsV RX8 103 RX8 yX8_two wsX8_two) := goodIn_app (goodIn_of _ (by decide +kernel)) ggX8_checkCode_X8_two
set_option maxRecDepth 20000 in
theorem ggX8_checkCode_X8_isBegin : GoodIn wsX8_checkCode wsX8_isBegin := goodIn_r _ [16, 2, 3, 1, 22, 23, 24, 25, 26, 27, 28, 29, 30, 31, 32, 33, 34, 35, 36, 37, 38, 39, 40, 41, 42, 43, 44, 45, 46, 47, 48, 49] (by decide +kernel) (by decide +kernel)
set_option maxRecDepth 20000 in
theorem gX8_checkCode_X8_isBegin : GoodIn wsX8_checkCode (wsV RX8 139 RX8 yX8_isBegin wsX8_isBegin) := goodIn_app (goodIn_of _ (by decide +kernel)) ggX8_checkCode_X8_isBegin
set_option maxRecDepth 20000 in
theorem ggX8_checkCode_X8_note : GoodIn wsX8_checkCode wsX8_note := goodIn_r _ [20, 21, 22, 23, 24, 25, 26, 27, 28, 29, 30, 31, 32, 33, 34, 35, 36, 37, 38, 39, 40, 41, 42, 43, 44, 45, 46, 47, 48, 49] (by decide +kernel) (by decide +kernel)
set_option maxRecDepth 20000 in
theorem gX8_checkCode_X8_note : GoodIn wsX8_checkCode (wsV RX8 135 RX8 yX8_note wsX8_note) := goodIn_app (goodIn_of _ (by decide +kernel)) ggX8_checkCode_X8_note
theorem dX8_checkCode_0 : decode cX8_checkCode 0 = .ok (.aload_n 0, 1) := by decide +kernel
theorem dX8_checkCode_1 : decode cX8_checkCode 1 = .ok (.getfield 56, 3) := by decide +kernel
theorem dX8_checkCode_4 : decode cX8_checkCode 4 = .ok (.iload_n 1, 1) := by decide +kernel
theorem dX8_checkCode_5 : decode cX8_checkCode 5 = .ok (.iaload, 1) := by decide +kernel
theorem dX8_checkCode_6 : decode cX8_checkCode 6 = .ok (.istore_n 2, 1) := by decide +kernel
theorem dX8_checkCode_7 : decode cX8_checkCode 7 = .ok (.iload_n 2, 1) := by decide +kernel
theorem dX8_checkCode_8 : decode cX8_checkCode 8 = .ok (.aload_n 0, 1) := by decide +kernel
theorem dX8_checkCode_9 : decode cX8_checkCode 9 = .ok (.getfield 56, 3) := by decide +kernel
theorem dX8_checkCode_12 : decode cX8_checkCode 12 = .ok (.iload_n 1, 1) := by decide +kernel
theorem dX8_checkCode_13 : decode cX8_checkCode 13 = .ok (.iaload, 1) := by decide +kernel
theorem dX8_checkCode_14 : decode cX8_checkCode 14 = .ok (.aload_n 0, 1) := by decide +kernel
theorem dX8_checkCode_15 : decode cX8_checkCode 15 = .ok (.getfield 59, 3) := by decide +kernel
theorem dX8_checkCode_18 : decode cX8_checkCode 18 = .ok (.iload_n 1, 1) := by decide +kernel
theorem dX8_checkCode_19 : decode cX8_checkCode 19 = .ok (.iaload, 1) := by decide +kernel
theorem dX8_checkCode_20 : decode cX8_checkCode 20 = .ok (.iadd, 1) := by decide +kernel
theorem dX8_checkCode_21 : decode cX8_checkCode 21 = .ok (.if_icmp .ge 120, 3) := by decide +kernel
theorem dX8_checkCode_24 : decode cX8_checkCode 24 = .ok (.aload_n 0, 1) := by decide +kernel
theorem dX8_checkCode_25 : decode cX8_checkCode 25 = .ok (.getfield 16, 3) := by decide +kernel
theorem dX8_checkCode_28 : decode cX8_checkCode 28 = .ok (.iload_n 2, 1) := by decide +kernel
theorem dX8_checkCode_29 : decode cX8_checkCode 29 = .ok (.baload, 1) := by decide +kernel
theorem dX8_checkCode_30 : decode cX8_checkCode 30 = .ok (.ifCond .eq 105, 3) := by decide +kernel
theorem dX8_checkCode_33 : decode cX8_checkCode 33 = .ok (.aload_n 0, 1) := by decide +kernel
theorem dX8_checkCode_34 : decode cX8_checkCode 34 = .ok (.getfield 13, 3) := by decide +kernel
theorem dX8_checkCode_37 : decode cX8_checkCode 37 = .ok (.iload_n 2, 1) := by decide +kernel
theorem dX8_checkCode_38 : decode cX8_checkCode 38 = .ok (.iaload, 1) := by decide +kernel
theorem dX8_checkCode_39 : decode cX8_checkCode 39 = .ok (.istore_n 3, 1) := by decide +kernel
theorem dX8_checkCode_40 : decode cX8_checkCode 40 = .ok (.iload_n 3, 1) := by decide +kernel
theorem dX8_checkCode_41 : decode cX8_checkCode 41 = .ok (.bipush 19, 2) := by decide +kernel
theorem dX8_checkCode_43 : decode cX8_checkCode 43 = .ok (.if_icmp .eq 9, 3) := by decide +kernel
theorem dX8_checkCode_46 : decode cX8_checkCode 46 = .ok (.iload_n 3, 1) := by decide +kernel
theorem dX8_checkCode_47 : decode cX8_checkCode 47 = .ok (.bipush 20, 2) := by decide +kernel
theorem dX8_checkCode_49 : decode cX8_checkCode 49 = .ok (.if_icmp .ne 9, 3) := by decide +kernel
theorem dX8_checkCode_52 : decode cX8_checkCode 52 = .ok (.iload_n 2, 1) := by decide +kernel
theorem dX8_checkCode_53 : decode cX8_checkCode 53 = .ok (.iconst 2, 1) := by decide +kernel
theorem dX8_checkCode_54 : decode cX8_checkCode 54 = .ok (.iadd, 1) := by decide +kernel
theorem dX8_checkCode_55 : decode cX8_checkCode 55 = .ok (.goto 22, 3) := by decide +kernel
theorem dX8_checkCode_58 : decode cX8_checkCode 58 = .ok (.iload_n 3, 1) := by decide +kernel
theorem dX8_checkCode_59 : decode cX8_checkCode 59 = .ok (.bipush 21, 2) := by decide +kernel
theorem dX8_checkCode_61 : decode cX8_checkCode 61 = .ok (.if_icmp .lt 15, 3) := by decide +kernel
theorem dX8_checkCode_64 : decode cX8_checkCode 64 = .ok (.iload_n 3, 1) := by decide +kernel
theorem dX8_checkCode_65 : decode cX8_checkCode 65 = .ok (.bipush 25, 2) := by decide +kernel
theorem dX8_checkCode_67 : decode cX8_checkCode 67 = .ok (.if_icmp .gt 9, 3) := by decide +kernel
theorem dX8_checkCode_70 : decode cX8_checkCode 70 = .ok (.iload_n 2, 1) := by decide +kernel
theorem dX8_checkCode_71 : decode cX8_checkCode 71 = .ok (.iconst 1, 1) := by decide +kernel
theorem dX8_checkCode_72 : decode cX8_checkCode 72 = .ok (.iadd, 1) := by decide +kernel
theorem dX8_checkCode_73 : decode cX8_checkCode 73 = .ok (.goto 4, 3) := by decide +kernel
theorem dX8_checkCode_76 : decode cX8_checkCode 76 = .ok (.iconst (-1), 1) := by decide +kernel
theorem dX8_checkCode_77 : decode cX8_checkCode 77 = .ok (.istore 4, 2) := by decide +kernel
theorem dX8_checkCode_79 : decode cX8_checkCode 79 = .ok (.iload 4, 2) := by decide +kernel
theorem dX8_checkCode_81 : decode cX8_checkCode 81 = .ok (.iconst (-1), 1) := by decide +kernel
theorem dX8_checkCode_82 : decode cX8_checkCode 82 = .ok (.if_icmp .eq 20, 3) := by decide +kernel
theorem dX8_checkCode_85 : decode cX8_checkCode 85 = .ok (.aload_n 0, 1) := by decide +kernel
theorem dX8_checkCode_86 : decode cX8_checkCode 86 = .ok (.iload 4, 2) := by decide +kernel
theorem dX8_checkCode_88 : decode cX8_checkCode 88 = .ok (.aload_n 0, 1) := by decide +kernel
theorem dX8_checkCode_89 : decode cX8_checkCode 89 = .ok (.iload_n 1, 1) := by decide +kernel
theorem dX8_checkCode_90 : decode cX8_checkCode 90 = .ok (.aload_n 0, 1) := by decide +kernel
theorem dX8_checkCode_91 : decode cX8_checkCode 91 = .ok (.iload 4, 2) := by decide +kernel
theorem dX8_checkCode_93 : decode cX8_checkCode 93 = .ok (.invokevirtual 103, 3) := by decide +kernel
theorem dX8_checkCode_96 : decode cX8_checkCode 96 = .ok (.invokevirtual 139, 3) := by decide +kernel
theorem dX8_checkCode_99 : decode cX8_checkCode 99 = .ok (.invokevirtual 135, 3) := by decide +kernel
theorem dX8_checkCode_102 : decode cX8_checkCode 102 = .ok (.iload_n 3, 1) := by decide +kernel
theorem dX8_checkCode_103 : decode cX8_checkCode 103 = .ok (.bipush 35, 2) := by decide +kernel
theorem dX8_checkCode_105 : decode cX8_checkCode 105 = .ok (.if_icmp .ne 30, 3) := by decide +kernel
theorem dX8_checkCode_108 : decode cX8_checkCode 108 = .ok (.aload_n 0, 1) := by decide +kernel
theorem dX8_checkCode_109 : decode cX8_checkCode 109 = .ok (.iload_n 2, 1) := by decide +kernel
theorem dX8_checkCode_110 : decode cX8_checkCode 110 = .ok (.iconst 1, 1) := by decide +kernel
theorem dX8_checkCode_111 : decode cX8_checkCode 111 = .ok (.iadd, 1) := by decide +kernel
theorem dX8_checkCode_112 : decode cX8_checkCode 112 = .ok (.aload_n 0, 1) := by decide +kernel
theorem dX8_checkCode_113 : decode cX8_checkCode 113 = .ok (.getfield 13, 3) := by decide +kernel
theorem dX8_checkCode_116 : decode cX8_checkCode 116 = .ok (.iload_n 2, 1) := by decide +kernel
theorem dX8_checkCode_117 : decode cX8_checkCode 117 = .ok (.iconst 1, 1) := by decide +kernel
theorem dX8_checkCode_118 : decode cX8_checkCode 118 = .ok (.iadd, 1) := by decide +kernel
theorem dX8_checkCode_119 : decode cX8_checkCode 119 = .ok (.iaload, 1) := by decide +kernel
theorem dX8_checkCode_120 : decode cX8_checkCode 120 = .ok (.aload_n 0, 1) := by decide +kernel
theorem dX8_checkCode_121 : decode cX8_checkCode 121 = .ok (.getfield 123, 3) := by decide +kernel
theorem dX8_checkCode_124 : decode cX8_checkCode 124 = .ok (.if_icmp .ge 7, 3) := by decide +kernel
theorem dX8_checkCode_127 : decode cX8_checkCode 127 = .ok (.iconst 1, 1) := by decide +kernel
theorem dX8_checkCode_128 : decode cX8_checkCode 128 = .ok (.goto 4, 3) := by decide +kernel
theorem dX8_checkCode_131 : decode cX8_checkCode 131 = .ok (.iconst 0, 1) := by decide +kernel
theorem dX8_checkCode_132 : decode cX8_checkCode 132 = .ok (.invokevirtual 135, 3) := by decide +kernel
theorem dX8_checkCode_135 : decode cX8_checkCode 135 = .ok (.iinc 2 1, 3) := by decide +kernel
theorem dX8_checkCode_138 : decode cX8_checkCode 138 = .ok (.goto (-131), 3) := by decide +kernel
theorem dX8_checkCode_141 : decode cX8_checkCode 141 = .ok (.iconst 0, 1) := by decide +kernel
theorem dX8_checkCode_142 : decode cX8_checkCode 142 = .ok (.istore_n 2, 1) := by decide +kernel
theorem dX8_checkCode_143 : decode cX8_checkCode 143 = .ok (.iload_n 2, 1) := by decide +kernel
theorem dX8_checkCode_144 : decode cX8_checkCode 144 = .ok (.aload_n 0, 1) := by decide +kernel
theorem dX8_checkCode_145 : decode cX8_checkCode 145 = .ok (.getfield 62, 3) := by decide +kernel
theorem dX8_checkCode_148 : decode cX8_checkCode 148 = .ok (.iload_n 1, 1) := by decide +kernel
theorem dX8_checkCode_149 : decode cX8_checkCode 149 = .ok (.iaload, 1) := by decide +kernel
theorem dX8_checkCode_150 : decode cX8_checkCode 150 = .ok (.if_icmp .ge 121, 3) := by decide +kernel
theorem dX8_checkCode_153 : decode cX8_checkCode 153 = .ok (.aload_n 0, 1) := by decide +kernel
theorem dX8_checkCode_154 : decode cX8_checkCode 154 = .ok (.getfield 65, 3) := by decide +kernel
theorem dX8_checkCode_157 : decode cX8_checkCode 157 = .ok (.iload_n 1, 1) := by decide +kernel
theorem dX8_checkCode_158 : decode cX8_checkCode 158 = .ok (.iaload, 1) := by decide +kernel
theorem dX8_checkCode_159 : decode cX8_checkCode 159 = .ok (.bipush 7, 2) := by decide +kernel
theorem dX8_checkCode_161 : decode cX8_checkCode 161 = .ok (.iload_n 2, 1) := by decide +kernel
theorem dX8_checkCode_162 : decode cX8_checkCode 162 = .ok (.imul, 1) := by decide +kernel
theorem dX8_checkCode_163 : decode cX8_checkCode 163 = .ok (.iadd, 1) := by decide +kernel
theorem dX8_checkCode_164 : decode cX8_checkCode 164 = .ok (.istore_n 3, 1) := by decide +kernel
theorem dX8_checkCode_165 : decode cX8_checkCode 165 = .ok (.aload_n 0, 1) := by decide +kernel
theorem dX8_checkCode_166 : decode cX8_checkCode 166 = .ok (.iload_n 3, 1) := by decide +kernel
theorem dX8_checkCode_167 : decode cX8_checkCode 167 = .ok (.aload_n 0, 1) := by decide +kernel
theorem dX8_checkCode_168 : decode cX8_checkCode 168 = .ok (.iload_n 1, 1) := by decide +kernel
theorem dX8_checkCode_169 : decode cX8_checkCode 169 = .ok (.aload_n 0, 1) := by decide +kernel
theorem dX8_checkCode_170 : decode cX8_checkCode 170 = .ok (.iload_n 3, 1) := by decide +kernel
theorem dX8_checkCode_171 : decode cX8_checkCode 171 = .ok (.invokevirtual 103, 3) := by decide +kernel
theorem dX8_checkCode_174 : decode cX8_checkCode 174 = .ok (.invokevirtual 139, 3) := by decide +kernel
theorem dX8_checkCode_177 : decode cX8_checkCode 177 = .ok (.ifCond .eq 22, 3) := by decide +kernel
theorem dX8_checkCode_180 : decode cX8_checkCode 180 = .ok (.aload_n 0, 1) := by decide +kernel
theorem dX8_checkCode_181 : decode cX8_checkCode 181 = .ok (.iload_n 3, 1) := by decide +kernel
theorem dX8_checkCode_182 : decode cX8_checkCode 182 = .ok (.invokevirtual 103, 3) := by decide +kernel
theorem dX8_checkCode_185 : decode cX8_checkCode 185 = .ok (.aload_n 0, 1) := by decide +kernel
theorem dX8_checkCode_186 : decode cX8_checkCode 186 = .ok (.iload_n 3, 1) := by decide +kernel
theorem dX8_checkCode_187 : decode cX8_checkCode 187 = .ok (.iconst 2, 1) := by decide +kernel
theorem dX8_checkCode_188 : decode cX8_checkCode 188 = .ok (.iadd, 1) := by decide +kernel
theorem dX8_checkCode_189 : decode cX8_checkCode 189 = .ok (.invokevirtual 103, 3) := by decide +kernel
theorem dX8_checkCode_192 : decode cX8_checkCode 192 = .ok (.if_icmp .ge 7, 3) := by decide +kernel
theorem dX8_checkCode_195 : decode cX8_checkCode 195 = .ok (.iconst 1, 1) := by decide +kernel
theorem dX8_checkCode_196 : decode cX8_checkCode 196 = .ok (.goto 4, 3) := by decide +kernel
theorem dX8_checkCode_199 : decode cX8_checkCode 199 = .ok (.iconst 0, 1) := by decide +kernel
theorem dX8_checkCode_200 : decode cX8_checkCode 200 = .ok (.invokevirtual 135, 3) := by decide +kernel
theorem dX8_checkCode_203 : decode cX8_checkCode 203 = .ok (.aload_n 0, 1) := by decide +kernel
theorem dX8_checkCode_204 : decode cX8_checkCode 204 = .ok (.iload_n 3, 1) := by decide +kernel
theorem dX8_checkCode_205 : decode cX8_checkCode 205 = .ok (.iconst 2, 1) := by decide +kernel
theorem dX8_checkCode_206 : decode cX8_checkCode 206 = .ok (.iadd, 1) := by decide +kernel
theorem dX8_checkCode_207 : decode cX8_checkCode 207 = .ok (.aload_n 0, 1) := by decide +kernel
theorem dX8_checkCode_208 : decode cX8_checkCode 208 = .ok (.iload_n 1, 1) := by decide +kernel
theorem dX8_checkCode_209 : decode cX8_checkCode 209 = .ok (.aload_n 0, 1) := by decide +kernel
theorem dX8_checkCode_210 : decode cX8_checkCode 210 = .ok (.iload_n 3, 1) := by decide +kernel
theorem dX8_checkCode_211 : decode cX8_checkCode 211 = .ok (.iconst 2, 1) := by decide +kernel
theorem dX8_checkCode_212 : decode cX8_checkCode 212 = .ok (.iadd, 1) := by decide +kernel
theorem dX8_checkCode_213 : decode cX8_checkCode 213 = .ok (.invokevirtual 103, 3) := by decide +kernel
theorem dX8_checkCode_216 : decode cX8_checkCode 216 = .ok (.invokevirtual 139, 3) := by decide +kernel
theorem dX8_checkCode_219 : decode cX8_checkCode 219 = .ok (.ifCond .ne 19, 3) := by decide +kernel
theorem dX8_checkCode_222 : decode cX8_checkCode 222 = .ok (.aload_n 0, 1) := by decide +kernel
theorem dX8_checkCode_223 : decode cX8_checkCode 223 = .ok (.iload_n 3, 1) := by decide +kernel
theorem dX8_checkCode_224 : decode cX8_checkCode 224 = .ok (.iconst 2, 1) := by decide +kernel
theorem dX8_checkCode_225 : decode cX8_checkCode 225 = .ok (.iadd, 1) := by decide +kernel
theorem dX8_checkCode_226 : decode cX8_checkCode 226 = .ok (.invokevirtual 103, 3) := by decide +kernel
theorem dX8_checkCode_229 : decode cX8_checkCode 229 = .ok (.aload_n 0, 1) := by decide +kernel
theorem dX8_checkCode_230 : decode cX8_checkCode 230 = .ok (.getfield 59, 3) := by decide +kernel
theorem dX8_checkCode_233 : decode cX8_checkCode 233 = .ok (.iload_n 1, 1) := by decide +kernel
theorem dX8_checkCode_234 : decode cX8_checkCode 234 = .ok (.iaload, 1) := by decide +kernel
theorem dX8_checkCode_235 : decode cX8_checkCode 235 = .ok (.if_icmp .ne 7, 3) := by decide +kernel
theorem dX8_checkCode_238 : decode cX8_checkCode 238 = .ok (.iconst 1, 1) := by decide +kernel
theorem dX8_checkCode_239 : decode cX8_checkCode 239 = .ok (.goto 4, 3) := by decide +kernel
theorem dX8_checkCode_242 : decode cX8_checkCode 242 = .ok (.iconst 0, 1) := by decide +kernel
theorem dX8_checkCode_243 : decode cX8_checkCode 243 = .ok (.invokevirtual 135, 3) := by decide +kernel
theorem dX8_checkCode_246 : decode cX8_checkCode 246 = .ok (.aload_n 0, 1) := by decide +kernel
theorem dX8_checkCode_247 : decode cX8_checkCode 247 = .ok (.iload_n 3, 1) := by decide +kernel
theorem dX8_checkCode_248 : decode cX8_checkCode 248 = .ok (.iconst 5, 1) := by decide +kernel
theorem dX8_checkCode_249 : decode cX8_checkCode 249 = .ok (.iadd, 1) := by decide +kernel
theorem dX8_checkCode_250 : decode cX8_checkCode 250 = .ok (.aload_n 0, 1) := by decide +kernel
theorem dX8_checkCode_251 : decode cX8_checkCode 251 = .ok (.iload_n 1, 1) := by decide +kernel
theorem dX8_checkCode_252 : decode cX8_checkCode 252 = .ok (.aload_n 0, 1) := by decide +kernel
theorem dX8_checkCode_253 : decode cX8_checkCode 253 = .ok (.iload_n 3, 1) := by decide +kernel
theorem dX8_checkCode_254 : decode cX8_checkCode 254 = .ok (.iconst 5, 1) := by decide +kernel
theorem dX8_checkCode_255 : decode cX8_checkCode 255 = .ok (.iadd, 1) := by decide +kernel
theorem dX8_checkCode_256 : decode cX8_checkCode 256 = .ok (.invokevirtual 103, 3) := by decide +kernel
theorem dX8_checkCode_259 : decode cX8_checkCode 259 = .ok (.invokevirtual 139, 3) := by decide +kernel
theorem dX8_checkCode_262 : decode cX8_checkCode 262 = .ok (.invokevirtual 135, 3) := by decide +kernel
theorem dX8_checkCode_265 : decode cX8_checkCode 265 = .ok (.iinc 2 1, 3) := by decide +kernel
theorem dX8_checkCode_268 : decode cX8_checkCode 268 = .ok (.goto (-125), 3) := by decide +kernel
theorem dX8_checkCode_271 : decode cX8_checkCode 271 = .ok (.return_, 1) := by decide +kernel
set_option maxRecDepth 20000 in
theorem ggX8_end_X8_readAll_1 : GoodIn wsX8_end wsX8_readAll_r1 := goodIn_r _ [16, 17, 10, 18, 19, 6, 20, 2, 21, 22, 23, 14, 24, 25, 26, 27, 28, 3, 29, 30, 31, 32, 7, 33] (by decide +kernel) (by decide +kernel)
set_option maxRecDepth 20000 in
theorem ggX8_end_X8_readAll_2 : GoodIn wsX8_end wsX8_readAll_r2 := goodIn_r _ [34, 35, 36, 37, 38, 39, 40, 41, 42, 43, 44, 45, 46, 47, 48, 49, 50, 51, 52, 53, 54, 55, 56, 57] (by decide +kernel) (by decide +kernel)
set_option maxRecDepth 20000 in
theorem ggX8_end_X8_readAll_3 : GoodIn wsX8_end wsX8_readAll_r3 := goodIn_r _ [58, 59, 60, 61, 62, 63, 64, 65, 66, 67, 68, 69, 70, 71, 72, 73, 5, 8, 74, 75, 76] (by decide +kernel) (by decide +kernel)
set_option maxRecDepth 20000 in
theorem ggX8_end_X8_readAll_0 : GoodIn wsX8_end wsX80 := goodIn_r _ [97, 98, 99, 100, 101, 102, 103, 104, 105, 106, 107, 108, 109, 110, 111, 112, 113, 114, 115, 116, 117, 118, 119, 120, 121, 122, 123, 124] (by decide +kernel) (by decide +kernel)
set_option maxRecDepth 20000 in
theorem ggX8_end_X8_readAll : GoodIn wsX8_end wsX8_readAll := goodIn_co (List.mem_of_getElem? (i := 15) rfl) (Or.inl rfl) (goodIn_app (goodIn_app ggX8_end_X8_readAll_1 (goodIn_app ggX8_end_X8_readAll_2 ggX8_end_X8_readAll_3)) ggX8_end_X8_readAll_0)
set_option maxRecDepth 20000 in
theorem gX8_end_X8_readAll : GoodIn wsX8_end (wsV RX8 146 RX8 yX8_readAll wsX8_readAll) := goodIn_app (goodIn_of _ (by decide +kernel)) ggX8_end_X8_readAll
set_option maxRecDepth 20000 in
theorem ggX8_end_X8_checkSlots : GoodIn wsX8_end wsX8_checkSlots := goodIn_r _ [80, 16, 44, 45, 41, 10, 18, 81, 82, 83, 14, 84, 19, 59, 58, 85, 86, 87, 88, 7, 97, 98, 99, 100, 101, 102, 103, 104, 105, 106, 107, 108, 109, 110, 111, 112, 113, 114, 115, 116, 117, 118, 119, 120, 121, 122, 123, 124] (by decide +kernel) (by decide +kernel)
set_option maxRecDepth 20000 in
theorem gX8_end_X8_checkSlots : GoodIn wsX8_end (wsV RX8 149 RX8 yX8_checkSlots wsX8_checkSlots) := goodIn_app (goodIn_of _ (by decide +kernel)) ggX8_end_X8_checkSlots
set_option maxRecDepth 20000 in
theorem ggX8_end_X8_checkCode : GoodIn wsX8_end wsX8_checkCode := goodIn_r _ [92, 63, 62, 5, 3, 10, 64, 65, 66, 67, 68, 14, 69, 93, 94, 95, 96, 85, 86, 87, 88, 7, 97, 98, 99, 100, 101, 102, 103, 104, 105, 106, 107, 108, 109, 110, 111, 112, 113, 114, 115, 116, 117, 118, 119, 120, 121, 122, 123, 124] (by decide +kernel) (by decide +kernel)
set_option maxRecDepth 20000 in
theorem gX8_end_X8_checkCode : GoodIn wsX8_end (wsV RX8 152 RX8 yX8_checkCode wsX8_checkCode) := goodIn_app (goodIn_of _ (by decide +kernel)) ggX8_end_X8_checkCode
theorem dX8_end_0 : decode cX8_end 0 = .ok (.iload_n 1, 1) := by decide +kernel
theorem dX8_end_1 : decode cX8_end 1 = .ok (.ifCond .lt 11, 3) := by decide +kernel
theorem dX8_end_4 : decode cX8_end 4 = .ok (.iload_n 1, 1) := by decide +kernel
theorem dX8_end_5 : decode cX8_end 5 = .ok (.aload_n 0, 1) := by decide +kernel
theorem dX8_end_6 : decode cX8_end 6 = .ok (.getfield 68, 3) := by decide +kernel
theorem dX8_end_9 : decode cX8_end 9 = .ok (.if_icmp .le 10, 3) := by decide +kernel
theorem dX8_end_12 : decode cX8_end 12 = .ok (.aload_n 0, 1) := by decide +kernel
theorem dX8_end_13 : decode cX8_end 13 = .ok (.iconst 0, 1) := by decide +kernel
theorem dX8_end_14 : decode cX8_end 14 = .ok (.putfield 68, 3) := by decide +kernel
theorem dX8_end_17 : decode cX8_end 17 = .ok (.iconst (-1), 1) := by decide +kernel
theorem dX8_end_18 : decode cX8_end 18 = .ok (.ireturn, 1) := by decide +kernel
theorem dX8_end_19 : decode cX8_end 19 = .ok (.aload_n 0, 1) := by decide +kernel
theorem dX8_end_20 : decode cX8_end 20 = .ok (.iload_n 1, 1) := by decide +kernel
theorem dX8_end_21 : decode cX8_end 21 = .ok (.putfield 78, 3) := by decide +kernel
theorem dX8_end_24 : decode cX8_end 24 = .ok (.iconst 0, 1) := by decide +kernel
theorem dX8_end_25 : decode cX8_end 25 = .ok (.istore_n 2, 1) := by decide +kernel
theorem dX8_end_26 : decode cX8_end 26 = .ok (.iload_n 2, 1) := by decide +kernel
theorem dX8_end_27 : decode cX8_end 27 = .ok (.iload_n 1, 1) := by decide +kernel
theorem dX8_end_28 : decode cX8_end 28 = .ok (.if_icmp .ge 28, 3) := by decide +kernel
theorem dX8_end_31 : decode cX8_end 31 = .ok (.aload_n 0, 1) := by decide +kernel
theorem dX8_end_32 : decode cX8_end 32 = .ok (.getfield 13, 3) := by decide +kernel
theorem dX8_end_35 : decode cX8_end 35 = .ok (.iload_n 2, 1) := by decide +kernel
theorem dX8_end_36 : decode cX8_end 36 = .ok (.aload_n 0, 1) := by decide +kernel
theorem dX8_end_37 : decode cX8_end 37 = .ok (.getfield 9, 3) := by decide +kernel
theorem dX8_end_40 : decode cX8_end 40 = .ok (.iload_n 2, 1) := by decide +kernel
theorem dX8_end_41 : decode cX8_end 41 = .ok (.iaload, 1) := by decide +kernel
theorem dX8_end_42 : decode cX8_end 42 = .ok (.iastore, 1) := by decide +kernel
theorem dX8_end_43 : decode cX8_end 43 = .ok (.aload_n 0, 1) := by decide +kernel
theorem dX8_end_44 : decode cX8_end 44 = .ok (.getfield 16, 3) := by decide +kernel
theorem dX8_end_47 : decode cX8_end 47 = .ok (.iload_n 2, 1) := by decide +kernel
theorem dX8_end_48 : decode cX8_end 48 = .ok (.iconst 0, 1) := by decide +kernel
theorem dX8_end_49 : decode cX8_end 49 = .ok (.bastore, 1) := by decide +kernel
theorem dX8_end_50 : decode cX8_end 50 = .ok (.iinc 2 1, 3) := by decide +kernel
theorem dX8_end_53 : decode cX8_end 53 = .ok (.goto (-27), 3) := by decide +kernel
theorem dX8_end_56 : decode cX8_end 56 = .ok (.aload_n 0, 1) := by decide +kernel
theorem dX8_end_57 : decode cX8_end 57 = .ok (.iconst 0, 1) := by decide +kernel
theorem dX8_end_58 : decode cX8_end 58 = .ok (.putfield 68, 3) := by decide +kernel
theorem dX8_end_61 : decode cX8_end 61 = .ok (.aload_n 0, 1) := by decide +kernel
theorem dX8_end_62 : decode cX8_end 62 = .ok (.iconst 0, 1) := by decide +kernel
theorem dX8_end_63 : decode cX8_end 63 = .ok (.putfield 75, 3) := by decide +kernel
theorem dX8_end_66 : decode cX8_end 66 = .ok (.aload_n 0, 1) := by decide +kernel
theorem dX8_end_67 : decode cX8_end 67 = .ok (.iconst (-1), 1) := by decide +kernel
theorem dX8_end_68 : decode cX8_end 68 = .ok (.putfield 72, 3) := by decide +kernel
theorem dX8_end_71 : decode cX8_end 71 = .ok (.aload_n 0, 1) := by decide +kernel
theorem dX8_end_72 : decode cX8_end 72 = .ok (.iconst 0, 1) := by decide +kernel
theorem dX8_end_73 : decode cX8_end 73 = .ok (.putfield 117, 3) := by decide +kernel
theorem dX8_end_76 : decode cX8_end 76 = .ok (.aload_n 0, 1) := by decide +kernel
theorem dX8_end_77 : decode cX8_end 77 = .ok (.iconst 0, 1) := by decide +kernel
theorem dX8_end_78 : decode cX8_end 78 = .ok (.putfield 142, 3) := by decide +kernel
theorem dX8_end_81 : decode cX8_end 81 = .ok (.aload_n 0, 1) := by decide +kernel
theorem dX8_end_82 : decode cX8_end 82 = .ok (.invokevirtual 146, 3) := by decide +kernel
theorem dX8_end_85 : decode cX8_end 85 = .ok (.ifCond .eq 28, 3) := by decide +kernel
theorem dX8_end_88 : decode cX8_end 88 = .ok (.aload_n 0, 1) := by decide +kernel
theorem dX8_end_89 : decode cX8_end 89 = .ok (.invokevirtual 149, 3) := by decide +kernel
theorem dX8_end_92 : decode cX8_end 92 = .ok (.iconst 0, 1) := by decide +kernel
theorem dX8_end_93 : decode cX8_end 93 = .ok (.istore_n 2, 1) := by decide +kernel
theorem dX8_end_94 : decode cX8_end 94 = .ok (.iload_n 2, 1) := by decide +kernel
theorem dX8_end_95 : decode cX8_end 95 = .ok (.aload_n 0, 1) := by decide +kernel
theorem dX8_end_96 : decode cX8_end 96 = .ok (.getfield 123, 3) := by decide +kernel
theorem dX8_end_99 : decode cX8_end 99 = .ok (.if_icmp .ge 14, 3) := by decide +kernel
theorem dX8_end_102 : decode cX8_end 102 = .ok (.aload_n 0, 1) := by decide +kernel
theorem dX8_end_103 : decode cX8_end 103 = .ok (.iload_n 2, 1) := by decide +kernel
theorem dX8_end_104 : decode cX8_end 104 = .ok (.invokevirtual 152, 3) := by decide +kernel
theorem dX8_end_107 : decode cX8_end 107 = .ok (.iinc 2 1, 3) := by decide +kernel
theorem dX8_end_110 : decode cX8_end 110 = .ok (.goto (-16), 3) := by decide +kernel
theorem dX8_end_113 : decode cX8_end 113 = .ok (.aload_n 0, 1) := by decide +kernel
theorem dX8_end_114 : decode cX8_end 114 = .ok (.aload_n 0, 1) := by decide +kernel
theorem dX8_end_115 : decode cX8_end 115 = .ok (.getfield 72, 3) := by decide +kernel
theorem dX8_end_118 : decode cX8_end 118 = .ok (.ifCond .ge 7, 3) := by decide +kernel
theorem dX8_end_121 : decode cX8_end 121 = .ok (.iconst 1, 1) := by decide +kernel
theorem dX8_end_122 : decode cX8_end 122 = .ok (.goto 4, 3) := by decide +kernel
theorem dX8_end_125 : decode cX8_end 125 = .ok (.iconst 0, 1) := by decide +kernel
theorem dX8_end_126 : decode cX8_end 126 = .ok (.putfield 142, 3) := by decide +kernel
theorem dX8_end_129 : decode cX8_end 129 = .ok (.aload_n 0, 1) := by decide +kernel
theorem dX8_end_130 : decode cX8_end 130 = .ok (.getfield 142, 3) := by decide +kernel
theorem dX8_end_133 : decode cX8_end 133 = .ok (.ifCond .eq 10, 3) := by decide +kernel
theorem dX8_end_136 : decode cX8_end 136 = .ok (.aload_n 0, 1) := by decide +kernel
theorem dX8_end_137 : decode cX8_end 137 = .ok (.getfield 117, 3) := by decide +kernel
theorem dX8_end_140 : decode cX8_end 140 = .ok (.goto 10, 3) := by decide +kernel
theorem dX8_end_143 : decode cX8_end 143 = .ok (.bipush (-3), 2) := by decide +kernel
theorem dX8_end_145 : decode cX8_end 145 = .ok (.aload_n 0, 1) := by decide +kernel
theorem dX8_end_146 : decode cX8_end 146 = .ok (.getfield 72, 3) := by decide +kernel
theorem dX8_end_149 : decode cX8_end 149 = .ok (.isub, 1) := by decide +kernel
theorem dX8_end_150 : decode cX8_end 150 = .ok (.ireturn, 1) := by decide +kernel
theorem dX8_count_0 : decode cX8_count 0 = .ok (.iload_n 1, 1) := by decide +kernel
theorem dX8_count_1 : decode cX8_count 1 = .ok (.ifCond .lt 8, 3) := by decide +kernel
theorem dX8_count_4 : decode cX8_count 4 = .ok (.iload_n 1, 1) := by decide +kernel
theorem dX8_count_5 : decode cX8_count 5 = .ok (.iconst 3, 1) := by decide +kernel
theorem dX8_count_6 : decode cX8_count 6 = .ok (.if_icmp .le 5, 3) := by decide +kernel
theorem dX8_count_9 : decode cX8_count 9 = .ok (.iconst (-1), 1) := by decide +kernel
theorem dX8_count_10 : decode cX8_count 10 = .ok (.ireturn, 1) := by decide +kernel
theorem dX8_count_11 : decode cX8_count 11 = .ok (.aload_n 0, 1) := by decide +kernel
theorem dX8_count_12 : decode cX8_count 12 = .ok (.getfield 142, 3) := by decide +kernel
theorem dX8_count_15 : decode cX8_count 15 = .ok (.ifCond .ne 14, 3) := by decide +kernel
theorem dX8_count_18 : decode cX8_count 18 = .ok (.iload_n 1, 1) := by decide +kernel
theorem dX8_count_19 : decode cX8_count 19 = .ok (.iconst 3, 1) := by decide +kernel
theorem dX8_count_20 : decode cX8_count 20 = .ok (.if_icmp .ne 7, 3) := by decide +kernel
theorem dX8_count_23 : decode cX8_count 23 = .ok (.iconst (-1), 1) := by decide +kernel
theorem dX8_count_24 : decode cX8_count 24 = .ok (.goto 4, 3) := by decide +kernel
theorem dX8_count_27 : decode cX8_count 27 = .ok (.iconst 0, 1) := by decide +kernel
theorem dX8_count_28 : decode cX8_count 28 = .ok (.ireturn, 1) := by decide +kernel
theorem dX8_count_29 : decode cX8_count 29 = .ok (.iload_n 1, 1) := by decide +kernel
theorem dX8_count_30 : decode cX8_count 30 = .ok (.ifCond .ne 10, 3) := by decide +kernel
theorem dX8_count_33 : decode cX8_count 33 = .ok (.aload_n 0, 1) := by decide +kernel
theorem dX8_count_34 : decode cX8_count 34 = .ok (.getfield 89, 3) := by decide +kernel
theorem dX8_count_37 : decode cX8_count 37 = .ok (.goto 31, 3) := by decide +kernel
theorem dX8_count_40 : decode cX8_count 40 = .ok (.iload_n 1, 1) := by decide +kernel
theorem dX8_count_41 : decode cX8_count 41 = .ok (.iconst 1, 1) := by decide +kernel
theorem dX8_count_42 : decode cX8_count 42 = .ok (.if_icmp .ne 10, 3) := by decide +kernel
theorem dX8_count_45 : decode cX8_count 45 = .ok (.aload_n 0, 1) := by decide +kernel
theorem dX8_count_46 : decode cX8_count 46 = .ok (.getfield 123, 3) := by decide +kernel
theorem dX8_count_49 : decode cX8_count 49 = .ok (.goto 19, 3) := by decide +kernel
theorem dX8_count_52 : decode cX8_count 52 = .ok (.iload_n 1, 1) := by decide +kernel
theorem dX8_count_53 : decode cX8_count 53 = .ok (.iconst 2, 1) := by decide +kernel
theorem dX8_count_54 : decode cX8_count 54 = .ok (.if_icmp .ne 10, 3) := by decide +kernel
theorem dX8_count_57 : decode cX8_count 57 = .ok (.aload_n 0, 1) := by decide +kernel
theorem dX8_count_58 : decode cX8_count 58 = .ok (.getfield 117, 3) := by decide +kernel
theorem dX8_count_61 : decode cX8_count 61 = .ok (.goto 7, 3) := by decide +kernel
theorem dX8_count_64 : decode cX8_count 64 = .ok (.aload_n 0, 1) := by decide +kernel
theorem dX8_count_65 : decode cX8_count 65 = .ok (.getfield 129, 3) := by decide +kernel
theorem dX8_count_68 : decode cX8_count 68 = .ok (.ireturn, 1) := by decide +kernel
theorem dX8_isClass_0 : decode cX8_isClass 0 = .ok (.aload_n 0, 1) := by decide +kernel
theorem dX8_isClass_1 : decode cX8_isClass 1 = .ok (.getfield 142, 3) := by decide +kernel
theorem dX8_isClass_4 : decode cX8_isClass 4 = .ok (.ifCond .eq 19, 3) := by decide +kernel
theorem dX8_isClass_7 : decode cX8_isClass 7 = .ok (.iload_n 1, 1) := by decide +kernel
theorem dX8_isClass_8 : decode cX8_isClass 8 = .ok (.ifCond .lt 15, 3) := by decide +kernel
theorem dX8_isClass_11 : decode cX8_isClass 11 = .ok (.iload_n 1, 1) := by decide +kernel
theorem dX8_isClass_12 : decode cX8_isClass 12 = .ok (.aload_n 0, 1) := by decide +kernel
theorem dX8_isClass_13 : decode cX8_isClass 13 = .ok (.getfield 89, 3) := by decide +kernel
theorem dX8_isClass_16 : decode cX8_isClass 16 = .ok (.if_icmp .ge 7, 3) := by decide +kernel
theorem dX8_isClass_19 : decode cX8_isClass 19 = .ok (.iconst 1, 1) := by decide +kernel
theorem dX8_isClass_20 : decode cX8_isClass 20 = .ok (.goto 4, 3) := by decide +kernel
theorem dX8_isClass_23 : decode cX8_isClass 23 = .ok (.iconst 0, 1) := by decide +kernel
theorem dX8_isClass_24 : decode cX8_isClass 24 = .ok (.ireturn, 1) := by decide +kernel
theorem dX8_isMethod_0 : decode cX8_isMethod 0 = .ok (.aload_n 0, 1) := by decide +kernel
theorem dX8_isMethod_1 : decode cX8_isMethod 1 = .ok (.getfield 142, 3) := by decide +kernel
theorem dX8_isMethod_4 : decode cX8_isMethod 4 = .ok (.ifCond .eq 19, 3) := by decide +kernel
theorem dX8_isMethod_7 : decode cX8_isMethod 7 = .ok (.iload_n 1, 1) := by decide +kernel
theorem dX8_isMethod_8 : decode cX8_isMethod 8 = .ok (.ifCond .lt 15, 3) := by decide +kernel
theorem dX8_isMethod_11 : decode cX8_isMethod 11 = .ok (.iload_n 1, 1) := by decide +kernel
theorem dX8_isMethod_12 : decode cX8_isMethod 12 = .ok (.aload_n 0, 1) := by decide +kernel
theorem dX8_isMethod_13 : decode cX8_isMethod 13 = .ok (.getfield 123, 3) := by decide +kernel
theorem dX8_isMethod_16 : decode cX8_isMethod 16 = .ok (.if_icmp .ge 7, 3) := by decide +kernel
theorem dX8_isMethod_19 : decode cX8_isMethod 19 = .ok (.iconst 1, 1) := by decide +kernel
theorem dX8_isMethod_20 : decode cX8_isMethod 20 = .ok (.goto 4, 3) := by decide +kernel
theorem dX8_isMethod_23 : decode cX8_isMethod 23 = .ok (.iconst 0, 1) := by decide +kernel
theorem dX8_isMethod_24 : decode cX8_isMethod 24 = .ok (.ireturn, 1) := by decide +kernel
set_option maxRecDepth 20000 in
theorem ggX8_classOf_X8_isClass : GoodIn wsX8_classOf wsX8_isClass := goodIn_r _ [9, 10, 11, 12, 13, 14, 15, 16, 17, 18, 19, 20, 21, 22, 23, 24, 25, 26, 27, 28, 29, 30, 31, 32, 33, 34, 35, 36, 37, 38, 39] (by decide +kernel) (by decide +kernel)
set_option maxRecDepth 20000 in
theorem gX8_classOf_X8_isClass : GoodIn wsX8_classOf (wsV RX8 156 RX8 yX8_isClass wsX8_isClass) := goodIn_app (goodIn_of _ (by decide +kernel)) ggX8_classOf_X8_isClass
theorem dX8_classOf_0 : decode cX8_classOf 0 = .ok (.aload_n 0, 1) := by decide +kernel
theorem dX8_classOf_1 : decode cX8_classOf 1 = .ok (.iload_n 1, 1) := by decide +kernel
theorem dX8_classOf_2 : decode cX8_classOf 2 = .ok (.invokevirtual 156, 3) := by decide +kernel
theorem dX8_classOf_5 : decode cX8_classOf 5 = .ok (.ifCond .ne 5, 3) := by decide +kernel
theorem dX8_classOf_8 : decode cX8_classOf 8 = .ok (.iconst (-1), 1) := by decide +kernel
theorem dX8_classOf_9 : decode cX8_classOf 9 = .ok (.ireturn, 1) := by decide +kernel
theorem dX8_classOf_10 : decode cX8_classOf 10 = .ok (.iload_n 2, 1) := by decide +kernel
theorem dX8_classOf_11 : decode cX8_classOf 11 = .ok (.tableswitch 99 0 3 #[29, 36, 43, 73], 29) := by decide +kernel
theorem dX8_classOf_40 : decode cX8_classOf 40 = .ok (.aload_n 0, 1) := by decide +kernel
theorem dX8_classOf_41 : decode cX8_classOf 41 = .ok (.getfield 20, 3) := by decide +kernel
theorem dX8_classOf_44 : decode cX8_classOf 44 = .ok (.iload_n 1, 1) := by decide +kernel
theorem dX8_classOf_45 : decode cX8_classOf 45 = .ok (.iaload, 1) := by decide +kernel
theorem dX8_classOf_46 : decode cX8_classOf 46 = .ok (.ireturn, 1) := by decide +kernel
theorem dX8_classOf_47 : decode cX8_classOf 47 = .ok (.aload_n 0, 1) := by decide +kernel
theorem dX8_classOf_48 : decode cX8_classOf 48 = .ok (.getfield 23, 3) := by decide +kernel
theorem dX8_classOf_51 : decode cX8_classOf 51 = .ok (.iload_n 1, 1) := by decide +kernel
theorem dX8_classOf_52 : decode cX8_classOf 52 = .ok (.iaload, 1) := by decide +kernel
theorem dX8_classOf_53 : decode cX8_classOf 53 = .ok (.ireturn, 1) := by decide +kernel
theorem dX8_classOf_54 : decode cX8_classOf 54 = .ok (.iload_n 3, 1) := by decide +kernel
theorem dX8_classOf_55 : decode cX8_classOf 55 = .ok (.ifCond .lt 27, 3) := by decide +kernel
theorem dX8_classOf_58 : decode cX8_classOf 58 = .ok (.iload_n 3, 1) := by decide +kernel
theorem dX8_classOf_59 : decode cX8_classOf 59 = .ok (.aload_n 0, 1) := by decide +kernel
theorem dX8_classOf_60 : decode cX8_classOf 60 = .ok (.getfield 23, 3) := by decide +kernel
theorem dX8_classOf_63 : decode cX8_classOf 63 = .ok (.iload_n 1, 1) := by decide +kernel
theorem dX8_classOf_64 : decode cX8_classOf 64 = .ok (.iaload, 1) := by decide +kernel
theorem dX8_classOf_65 : decode cX8_classOf 65 = .ok (.if_icmp .ge 17, 3) := by decide +kernel
theorem dX8_classOf_68 : decode cX8_classOf 68 = .ok (.aload_n 0, 1) := by decide +kernel
theorem dX8_classOf_69 : decode cX8_classOf 69 = .ok (.getfield 26, 3) := by decide +kernel
theorem dX8_classOf_72 : decode cX8_classOf 72 = .ok (.bipush 15, 2) := by decide +kernel
theorem dX8_classOf_74 : decode cX8_classOf 74 = .ok (.iload_n 1, 1) := by decide +kernel
theorem dX8_classOf_75 : decode cX8_classOf 75 = .ok (.imul, 1) := by decide +kernel
theorem dX8_classOf_76 : decode cX8_classOf 76 = .ok (.iload_n 3, 1) := by decide +kernel
theorem dX8_classOf_77 : decode cX8_classOf 77 = .ok (.iadd, 1) := by decide +kernel
theorem dX8_classOf_78 : decode cX8_classOf 78 = .ok (.iaload, 1) := by decide +kernel
theorem dX8_classOf_79 : decode cX8_classOf 79 = .ok (.goto 4, 3) := by decide +kernel
theorem dX8_classOf_82 : decode cX8_classOf 82 = .ok (.iconst (-1), 1) := by decide +kernel
theorem dX8_classOf_83 : decode cX8_classOf 83 = .ok (.ireturn, 1) := by decide +kernel
theorem dX8_classOf_84 : decode cX8_classOf 84 = .ok (.iload_n 3, 1) := by decide +kernel
theorem dX8_classOf_85 : decode cX8_classOf 85 = .ok (.ifCond .lt 23, 3) := by decide +kernel
theorem dX8_classOf_88 : decode cX8_classOf 88 = .ok (.iload_n 3, 1) := by decide +kernel
theorem dX8_classOf_89 : decode cX8_classOf 89 = .ok (.bipush 16, 2) := by decide +kernel
theorem dX8_classOf_91 : decode cX8_classOf 91 = .ok (.if_icmp .ge 17, 3) := by decide +kernel
theorem dX8_classOf_94 : decode cX8_classOf 94 = .ok (.aload_n 0, 1) := by decide +kernel
theorem dX8_classOf_95 : decode cX8_classOf 95 = .ok (.getfield 29, 3) := by decide +kernel
theorem dX8_classOf_98 : decode cX8_classOf 98 = .ok (.bipush 16, 2) := by decide +kernel
theorem dX8_classOf_100 : decode cX8_classOf 100 = .ok (.iload_n 1, 1) := by decide +kernel
theorem dX8_classOf_101 : decode cX8_classOf 101 = .ok (.imul, 1) := by decide +kernel
theorem dX8_classOf_102 : decode cX8_classOf 102 = .ok (.iload_n 3, 1) := by decide +kernel
theorem dX8_classOf_103 : decode cX8_classOf 103 = .ok (.iadd, 1) := by decide +kernel
theorem dX8_classOf_104 : decode cX8_classOf 104 = .ok (.iaload, 1) := by decide +kernel
theorem dX8_classOf_105 : decode cX8_classOf 105 = .ok (.goto 4, 3) := by decide +kernel
theorem dX8_classOf_108 : decode cX8_classOf 108 = .ok (.iconst (-1), 1) := by decide +kernel
theorem dX8_classOf_109 : decode cX8_classOf 109 = .ok (.ireturn, 1) := by decide +kernel
theorem dX8_classOf_110 : decode cX8_classOf 110 = .ok (.iconst (-1), 1) := by decide +kernel
theorem dX8_classOf_111 : decode cX8_classOf 111 = .ok (.ireturn, 1) := by decide +kernel
set_option maxRecDepth 20000 in
theorem ggX8_isA_X8_isClass : GoodIn wsX8_isA wsX8_isClass := goodIn_r _ [6, 7, 8, 9, 10, 11, 12, 13, 14, 15, 16, 17, 18, 19, 20, 21, 22, 23, 24, 25, 26, 27, 28, 29, 30, 31, 32, 33, 34, 35, 36] (by decide +kernel) (by decide +kernel)
set_option maxRecDepth 20000 in
theorem gX8_isA_X8_isClass : GoodIn wsX8_isA (wsV RX8 156 RX8 yX8_isClass wsX8_isClass) := goodIn_app (goodIn_of _ (by decide +kernel)) ggX8_isA_X8_isClass
theorem dX8_isA_0 : decode cX8_isA 0 = .ok (.aload_n 0, 1) := by decide +kernel
theorem dX8_isA_1 : decode cX8_isA 1 = .ok (.iload_n 1, 1) := by decide +kernel
theorem dX8_isA_2 : decode cX8_isA 2 = .ok (.invokevirtual 156, 3) := by decide +kernel
theorem dX8_isA_5 : decode cX8_isA 5 = .ok (.ifCond .eq 11, 3) := by decide +kernel
theorem dX8_isA_8 : decode cX8_isA 8 = .ok (.aload_n 0, 1) := by decide +kernel
theorem dX8_isA_9 : decode cX8_isA 9 = .ok (.iload_n 2, 1) := by decide +kernel
theorem dX8_isA_10 : decode cX8_isA 10 = .ok (.invokevirtual 156, 3) := by decide +kernel
theorem dX8_isA_13 : decode cX8_isA 13 = .ok (.ifCond .ne 5, 3) := by decide +kernel
theorem dX8_isA_16 : decode cX8_isA 16 = .ok (.iconst 0, 1) := by decide +kernel
theorem dX8_isA_17 : decode cX8_isA 17 = .ok (.ireturn, 1) := by decide +kernel
theorem dX8_isA_18 : decode cX8_isA 18 = .ok (.iload_n 1, 1) := by decide +kernel
theorem dX8_isA_19 : decode cX8_isA 19 = .ok (.istore_n 3, 1) := by decide +kernel
theorem dX8_isA_20 : decode cX8_isA 20 = .ok (.iload_n 3, 1) := by decide +kernel
theorem dX8_isA_21 : decode cX8_isA 21 = .ok (.ifCond .lt 18, 3) := by decide +kernel
theorem dX8_isA_24 : decode cX8_isA 24 = .ok (.iload_n 3, 1) := by decide +kernel
theorem dX8_isA_25 : decode cX8_isA 25 = .ok (.iload_n 2, 1) := by decide +kernel
theorem dX8_isA_26 : decode cX8_isA 26 = .ok (.if_icmp .eq 13, 3) := by decide +kernel
theorem dX8_isA_29 : decode cX8_isA 29 = .ok (.aload_n 0, 1) := by decide +kernel
theorem dX8_isA_30 : decode cX8_isA 30 = .ok (.getfield 20, 3) := by decide +kernel
theorem dX8_isA_33 : decode cX8_isA 33 = .ok (.iload_n 3, 1) := by decide +kernel
theorem dX8_isA_34 : decode cX8_isA 34 = .ok (.iaload, 1) := by decide +kernel
theorem dX8_isA_35 : decode cX8_isA 35 = .ok (.istore_n 3, 1) := by decide +kernel
theorem dX8_isA_36 : decode cX8_isA 36 = .ok (.goto (-16), 3) := by decide +kernel
theorem dX8_isA_39 : decode cX8_isA 39 = .ok (.iload_n 3, 1) := by decide +kernel
theorem dX8_isA_40 : decode cX8_isA 40 = .ok (.iload_n 2, 1) := by decide +kernel
theorem dX8_isA_41 : decode cX8_isA 41 = .ok (.if_icmp .ne 7, 3) := by decide +kernel
theorem dX8_isA_44 : decode cX8_isA 44 = .ok (.iconst 1, 1) := by decide +kernel
theorem dX8_isA_45 : decode cX8_isA 45 = .ok (.goto 4, 3) := by decide +kernel
theorem dX8_isA_48 : decode cX8_isA 48 = .ok (.iconst 0, 1) := by decide +kernel
theorem dX8_isA_49 : decode cX8_isA 49 = .ok (.ireturn, 1) := by decide +kernel
set_option maxRecDepth 20000 in
theorem ggX8_method_X8_isMethod : GoodIn wsX8_method wsX8_isMethod := goodIn_r _ [13, 14, 15, 22, 23, 24, 25, 26, 27, 28, 29, 30, 31, 32, 33, 34, 35, 36, 37, 38, 39, 40, 41, 42, 43, 44, 45, 46, 47, 48, 49] (by decide +kernel) (by decide +kernel)
set_option maxRecDepth 20000 in
theorem gX8_method_X8_isMethod : GoodIn wsX8_method (wsV RX8 159 RX8 yX8_isMethod wsX8_isMethod) := goodIn_app (goodIn_of _ (by decide +kernel)) ggX8_method_X8_isMethod
set_option maxRecDepth 20000 in
theorem ggX8_method_X8_counted : GoodIn wsX8_method wsX8_counted := goodIn_r _ [19, 7, 20, 21, 22, 23, 24, 25, 26, 27, 28, 29, 30, 31, 32, 33, 34, 35, 36, 37, 38, 39, 40, 41, 42, 43, 44, 45, 46, 47, 48, 49] (by decide +kernel) (by decide +kernel)
set_option maxRecDepth 20000 in
theorem gX8_method_X8_counted : GoodIn wsX8_method (wsV RX8 162 RX8 yX8_counted wsX8_counted) := goodIn_app (goodIn_of _ (by decide +kernel)) ggX8_method_X8_counted
theorem dX8_method_0 : decode cX8_method 0 = .ok (.aload_n 0, 1) := by decide +kernel
theorem dX8_method_1 : decode cX8_method 1 = .ok (.iload_n 1, 1) := by decide +kernel
theorem dX8_method_2 : decode cX8_method 2 = .ok (.invokevirtual 159, 3) := by decide +kernel
theorem dX8_method_5 : decode cX8_method 5 = .ok (.ifCond .ne 5, 3) := by decide +kernel
theorem dX8_method_8 : decode cX8_method 8 = .ok (.iconst (-1), 1) := by decide +kernel
theorem dX8_method_9 : decode cX8_method 9 = .ok (.ireturn, 1) := by decide +kernel
theorem dX8_method_10 : decode cX8_method 10 = .ok (.iload_n 2, 1) := by decide +kernel
theorem dX8_method_11 : decode cX8_method 11 = .ok (.tableswitch 154 0 9 #[53, 60, 67, 97, 104, 111, 118, 125, 132, 147], 53) := by decide +kernel
theorem dX8_method_64 : decode cX8_method 64 = .ok (.aload_n 0, 1) := by decide +kernel
theorem dX8_method_65 : decode cX8_method 65 = .ok (.getfield 38, 3) := by decide +kernel
theorem dX8_method_68 : decode cX8_method 68 = .ok (.iload_n 1, 1) := by decide +kernel
theorem dX8_method_69 : decode cX8_method 69 = .ok (.iaload, 1) := by decide +kernel
theorem dX8_method_70 : decode cX8_method 70 = .ok (.ireturn, 1) := by decide +kernel
theorem dX8_method_71 : decode cX8_method 71 = .ok (.aload_n 0, 1) := by decide +kernel
theorem dX8_method_72 : decode cX8_method 72 = .ok (.getfield 41, 3) := by decide +kernel
theorem dX8_method_75 : decode cX8_method 75 = .ok (.iload_n 1, 1) := by decide +kernel
theorem dX8_method_76 : decode cX8_method 76 = .ok (.iaload, 1) := by decide +kernel
theorem dX8_method_77 : decode cX8_method 77 = .ok (.ireturn, 1) := by decide +kernel
theorem dX8_method_78 : decode cX8_method 78 = .ok (.iload_n 3, 1) := by decide +kernel
theorem dX8_method_79 : decode cX8_method 79 = .ok (.ifCond .lt 27, 3) := by decide +kernel
theorem dX8_method_82 : decode cX8_method 82 = .ok (.iload_n 3, 1) := by decide +kernel
theorem dX8_method_83 : decode cX8_method 83 = .ok (.aload_n 0, 1) := by decide +kernel
theorem dX8_method_84 : decode cX8_method 84 = .ok (.getfield 41, 3) := by decide +kernel
theorem dX8_method_87 : decode cX8_method 87 = .ok (.iload_n 1, 1) := by decide +kernel
theorem dX8_method_88 : decode cX8_method 88 = .ok (.iaload, 1) := by decide +kernel
theorem dX8_method_89 : decode cX8_method 89 = .ok (.if_icmp .ge 17, 3) := by decide +kernel
theorem dX8_method_92 : decode cX8_method 92 = .ok (.aload_n 0, 1) := by decide +kernel
theorem dX8_method_93 : decode cX8_method 93 = .ok (.getfield 44, 3) := by decide +kernel
theorem dX8_method_96 : decode cX8_method 96 = .ok (.bipush 8, 2) := by decide +kernel
theorem dX8_method_98 : decode cX8_method 98 = .ok (.iload_n 1, 1) := by decide +kernel
theorem dX8_method_99 : decode cX8_method 99 = .ok (.imul, 1) := by decide +kernel
theorem dX8_method_100 : decode cX8_method 100 = .ok (.iload_n 3, 1) := by decide +kernel
theorem dX8_method_101 : decode cX8_method 101 = .ok (.iadd, 1) := by decide +kernel
theorem dX8_method_102 : decode cX8_method 102 = .ok (.iaload, 1) := by decide +kernel
theorem dX8_method_103 : decode cX8_method 103 = .ok (.goto 4, 3) := by decide +kernel
theorem dX8_method_106 : decode cX8_method 106 = .ok (.iconst (-1), 1) := by decide +kernel
theorem dX8_method_107 : decode cX8_method 107 = .ok (.ireturn, 1) := by decide +kernel
theorem dX8_method_108 : decode cX8_method 108 = .ok (.aload_n 0, 1) := by decide +kernel
theorem dX8_method_109 : decode cX8_method 109 = .ok (.getfield 47, 3) := by decide +kernel
theorem dX8_method_112 : decode cX8_method 112 = .ok (.iload_n 1, 1) := by decide +kernel
theorem dX8_method_113 : decode cX8_method 113 = .ok (.iaload, 1) := by decide +kernel
theorem dX8_method_114 : decode cX8_method 114 = .ok (.ireturn, 1) := by decide +kernel
theorem dX8_method_115 : decode cX8_method 115 = .ok (.aload_n 0, 1) := by decide +kernel
theorem dX8_method_116 : decode cX8_method 116 = .ok (.getfield 50, 3) := by decide +kernel
theorem dX8_method_119 : decode cX8_method 119 = .ok (.iload_n 1, 1) := by decide +kernel
theorem dX8_method_120 : decode cX8_method 120 = .ok (.iaload, 1) := by decide +kernel
theorem dX8_method_121 : decode cX8_method 121 = .ok (.ireturn, 1) := by decide +kernel
theorem dX8_method_122 : decode cX8_method 122 = .ok (.aload_n 0, 1) := by decide +kernel
theorem dX8_method_123 : decode cX8_method 123 = .ok (.getfield 53, 3) := by decide +kernel
theorem dX8_method_126 : decode cX8_method 126 = .ok (.iload_n 1, 1) := by decide +kernel
theorem dX8_method_127 : decode cX8_method 127 = .ok (.iaload, 1) := by decide +kernel
theorem dX8_method_128 : decode cX8_method 128 = .ok (.ireturn, 1) := by decide +kernel
theorem dX8_method_129 : decode cX8_method 129 = .ok (.aload_n 0, 1) := by decide +kernel
theorem dX8_method_130 : decode cX8_method 130 = .ok (.getfield 59, 3) := by decide +kernel
theorem dX8_method_133 : decode cX8_method 133 = .ok (.iload_n 1, 1) := by decide +kernel
theorem dX8_method_134 : decode cX8_method 134 = .ok (.iaload, 1) := by decide +kernel
theorem dX8_method_135 : decode cX8_method 135 = .ok (.ireturn, 1) := by decide +kernel
theorem dX8_method_136 : decode cX8_method 136 = .ok (.aload_n 0, 1) := by decide +kernel
theorem dX8_method_137 : decode cX8_method 137 = .ok (.iload_n 1, 1) := by decide +kernel
theorem dX8_method_138 : decode cX8_method 138 = .ok (.iconst (-1), 1) := by decide +kernel
theorem dX8_method_139 : decode cX8_method 139 = .ok (.invokevirtual 162, 3) := by decide +kernel
theorem dX8_method_142 : decode cX8_method 142 = .ok (.ireturn, 1) := by decide +kernel
theorem dX8_method_143 : decode cX8_method 143 = .ok (.iload_n 3, 1) := by decide +kernel
theorem dX8_method_144 : decode cX8_method 144 = .ok (.ifCond .lt 12, 3) := by decide +kernel
theorem dX8_method_147 : decode cX8_method 147 = .ok (.aload_n 0, 1) := by decide +kernel
theorem dX8_method_148 : decode cX8_method 148 = .ok (.iload_n 1, 1) := by decide +kernel
theorem dX8_method_149 : decode cX8_method 149 = .ok (.iload_n 3, 1) := by decide +kernel
theorem dX8_method_150 : decode cX8_method 150 = .ok (.invokevirtual 162, 3) := by decide +kernel
theorem dX8_method_153 : decode cX8_method 153 = .ok (.goto 4, 3) := by decide +kernel
theorem dX8_method_156 : decode cX8_method 156 = .ok (.iconst (-1), 1) := by decide +kernel
theorem dX8_method_157 : decode cX8_method 157 = .ok (.ireturn, 1) := by decide +kernel
theorem dX8_method_158 : decode cX8_method 158 = .ok (.aload_n 0, 1) := by decide +kernel
theorem dX8_method_159 : decode cX8_method 159 = .ok (.getfield 62, 3) := by decide +kernel
theorem dX8_method_162 : decode cX8_method 162 = .ok (.iload_n 1, 1) := by decide +kernel
theorem dX8_method_163 : decode cX8_method 163 = .ok (.iaload, 1) := by decide +kernel
theorem dX8_method_164 : decode cX8_method 164 = .ok (.ireturn, 1) := by decide +kernel
theorem dX8_method_165 : decode cX8_method 165 = .ok (.iconst (-1), 1) := by decide +kernel
theorem dX8_method_166 : decode cX8_method 166 = .ok (.ireturn, 1) := by decide +kernel
theorem dX8_counted_0 : decode cX8_counted 0 = .ok (.iconst 0, 1) := by decide +kernel
theorem dX8_counted_1 : decode cX8_counted 1 = .ok (.istore_n 3, 1) := by decide +kernel
theorem dX8_counted_2 : decode cX8_counted 2 = .ok (.iconst 0, 1) := by decide +kernel
theorem dX8_counted_3 : decode cX8_counted 3 = .ok (.istore 4, 2) := by decide +kernel
theorem dX8_counted_5 : decode cX8_counted 5 = .ok (.iload 4, 2) := by decide +kernel
theorem dX8_counted_7 : decode cX8_counted 7 = .ok (.aload_n 0, 1) := by decide +kernel
theorem dX8_counted_8 : decode cX8_counted 8 = .ok (.getfield 59, 3) := by decide +kernel
theorem dX8_counted_11 : decode cX8_counted 11 = .ok (.iload_n 1, 1) := by decide +kernel
theorem dX8_counted_12 : decode cX8_counted 12 = .ok (.iaload, 1) := by decide +kernel
theorem dX8_counted_13 : decode cX8_counted 13 = .ok (.if_icmp .ge 37, 3) := by decide +kernel
theorem dX8_counted_16 : decode cX8_counted 16 = .ok (.aload_n 0, 1) := by decide +kernel
theorem dX8_counted_17 : decode cX8_counted 17 = .ok (.getfield 16, 3) := by decide +kernel
theorem dX8_counted_20 : decode cX8_counted 20 = .ok (.aload_n 0, 1) := by decide +kernel
theorem dX8_counted_21 : decode cX8_counted 21 = .ok (.getfield 56, 3) := by decide +kernel
theorem dX8_counted_24 : decode cX8_counted 24 = .ok (.iload_n 1, 1) := by decide +kernel
theorem dX8_counted_25 : decode cX8_counted 25 = .ok (.iaload, 1) := by decide +kernel
theorem dX8_counted_26 : decode cX8_counted 26 = .ok (.iload 4, 2) := by decide +kernel
theorem dX8_counted_28 : decode cX8_counted 28 = .ok (.iadd, 1) := by decide +kernel
theorem dX8_counted_29 : decode cX8_counted 29 = .ok (.baload, 1) := by decide +kernel
theorem dX8_counted_30 : decode cX8_counted 30 = .ok (.ifCond .eq 14, 3) := by decide +kernel
theorem dX8_counted_33 : decode cX8_counted 33 = .ok (.iload_n 3, 1) := by decide +kernel
theorem dX8_counted_34 : decode cX8_counted 34 = .ok (.iload_n 2, 1) := by decide +kernel
theorem dX8_counted_35 : decode cX8_counted 35 = .ok (.if_icmp .ne 6, 3) := by decide +kernel
theorem dX8_counted_38 : decode cX8_counted 38 = .ok (.iload 4, 2) := by decide +kernel
theorem dX8_counted_40 : decode cX8_counted 40 = .ok (.ireturn, 1) := by decide +kernel
theorem dX8_counted_41 : decode cX8_counted 41 = .ok (.iinc 3 1, 3) := by decide +kernel
theorem dX8_counted_44 : decode cX8_counted 44 = .ok (.iinc 4 1, 3) := by decide +kernel
theorem dX8_counted_47 : decode cX8_counted 47 = .ok (.goto (-42), 3) := by decide +kernel
theorem dX8_counted_50 : decode cX8_counted 50 = .ok (.iload_n 2, 1) := by decide +kernel
theorem dX8_counted_51 : decode cX8_counted 51 = .ok (.iconst (-1), 1) := by decide +kernel
theorem dX8_counted_52 : decode cX8_counted 52 = .ok (.if_icmp .ne 7, 3) := by decide +kernel
theorem dX8_counted_55 : decode cX8_counted 55 = .ok (.iload_n 3, 1) := by decide +kernel
theorem dX8_counted_56 : decode cX8_counted 56 = .ok (.goto 4, 3) := by decide +kernel
theorem dX8_counted_59 : decode cX8_counted 59 = .ok (.iconst (-1), 1) := by decide +kernel
theorem dX8_counted_60 : decode cX8_counted 60 = .ok (.ireturn, 1) := by decide +kernel
set_option maxRecDepth 20000 in
theorem ggX8_handler_X8_isMethod : GoodIn wsX8_handler wsX8_isMethod := goodIn_r _ [8, 9, 10, 15, 16, 17, 18, 19, 20, 21, 22, 23, 24, 25, 26, 27, 28, 29, 30, 31, 32, 33, 34, 35, 36, 37, 38, 39, 40, 41, 42] (by decide +kernel) (by decide +kernel)
set_option maxRecDepth 20000 in
theorem gX8_handler_X8_isMethod : GoodIn wsX8_handler (wsV RX8 159 RX8 yX8_isMethod wsX8_isMethod) := goodIn_app (goodIn_of _ (by decide +kernel)) ggX8_handler_X8_isMethod
set_option maxRecDepth 20000 in
theorem ggX8_handler_X8_two : GoodIn wsX8_handler wsX8_two := goodIn_r _ [14, 3, 15, 16, 17, 18, 19, 20, 21, 22, 23, 24, 25, 26, 27, 28, 29, 30, 31, 32, 33, 34, 35, 36, 37, 38, 39, 40, 41, 42] (by decide +kernel) (by decide +kernel)
set_option maxRecDepth 20000 in
theorem gX8_handler_X8_two : GoodIn wsX8_handler (wsV RX8 103 RX8 yX8_two wsX8_two) := goodIn_app (goodIn_of _ (by decide +kernel)) ggX8_handler_X8_two
theorem dX8_handler_0 : decode cX8_handler 0 = .ok (.aload_n 0, 1) := by decide +kernel
theorem dX8_handler_1 : decode cX8_handler 1 = .ok (.iload_n 1, 1) := by decide +kernel
theorem dX8_handler_2 : decode cX8_handler 2 = .ok (.invokevirtual 159, 3) := by decide +kernel
theorem dX8_handler_5 : decode cX8_handler 5 = .ok (.ifCond .eq 17, 3) := by decide +kernel
theorem dX8_handler_8 : decode cX8_handler 8 = .ok (.iload_n 2, 1) := by decide +kernel
theorem dX8_handler_9 : decode cX8_handler 9 = .ok (.ifCond .lt 13, 3) := by decide +kernel
theorem dX8_handler_12 : decode cX8_handler 12 = .ok (.iload_n 2, 1) := by decide +kernel
theorem dX8_handler_13 : decode cX8_handler 13 = .ok (.aload_n 0, 1) := by decide +kernel
theorem dX8_handler_14 : decode cX8_handler 14 = .ok (.getfield 62, 3) := by decide +kernel
theorem dX8_handler_17 : decode cX8_handler 17 = .ok (.iload_n 1, 1) := by decide +kernel
theorem dX8_handler_18 : decode cX8_handler 18 = .ok (.iaload, 1) := by decide +kernel
theorem dX8_handler_19 : decode cX8_handler 19 = .ok (.if_icmp .lt 5, 3) := by decide +kernel
theorem dX8_handler_22 : decode cX8_handler 22 = .ok (.iconst (-1), 1) := by decide +kernel
theorem dX8_handler_23 : decode cX8_handler 23 = .ok (.ireturn, 1) := by decide +kernel
theorem dX8_handler_24 : decode cX8_handler 24 = .ok (.aload_n 0, 1) := by decide +kernel
theorem dX8_handler_25 : decode cX8_handler 25 = .ok (.getfield 65, 3) := by decide +kernel
theorem dX8_handler_28 : decode cX8_handler 28 = .ok (.iload_n 1, 1) := by decide +kernel
theorem dX8_handler_29 : decode cX8_handler 29 = .ok (.iaload, 1) := by decide +kernel
theorem dX8_handler_30 : decode cX8_handler 30 = .ok (.bipush 7, 2) := by decide +kernel
theorem dX8_handler_32 : decode cX8_handler 32 = .ok (.iload_n 2, 1) := by decide +kernel
theorem dX8_handler_33 : decode cX8_handler 33 = .ok (.imul, 1) := by decide +kernel
theorem dX8_handler_34 : decode cX8_handler 34 = .ok (.iadd, 1) := by decide +kernel
theorem dX8_handler_35 : decode cX8_handler 35 = .ok (.istore 4, 2) := by decide +kernel
theorem dX8_handler_37 : decode cX8_handler 37 = .ok (.iload_n 3, 1) := by decide +kernel
theorem dX8_handler_38 : decode cX8_handler 38 = .ok (.ifCond .ne 12, 3) := by decide +kernel
theorem dX8_handler_41 : decode cX8_handler 41 = .ok (.aload_n 0, 1) := by decide +kernel
theorem dX8_handler_42 : decode cX8_handler 42 = .ok (.iload 4, 2) := by decide +kernel
theorem dX8_handler_44 : decode cX8_handler 44 = .ok (.invokevirtual 103, 3) := by decide +kernel
theorem dX8_handler_47 : decode cX8_handler 47 = .ok (.goto 53, 3) := by decide +kernel
theorem dX8_handler_50 : decode cX8_handler 50 = .ok (.iload_n 3, 1) := by decide +kernel
theorem dX8_handler_51 : decode cX8_handler 51 = .ok (.iconst 1, 1) := by decide +kernel
theorem dX8_handler_52 : decode cX8_handler 52 = .ok (.if_icmp .ne 14, 3) := by decide +kernel
theorem dX8_handler_55 : decode cX8_handler 55 = .ok (.aload_n 0, 1) := by decide +kernel
theorem dX8_handler_56 : decode cX8_handler 56 = .ok (.iload 4, 2) := by decide +kernel
theorem dX8_handler_58 : decode cX8_handler 58 = .ok (.iconst 2, 1) := by decide +kernel
theorem dX8_handler_59 : decode cX8_handler 59 = .ok (.iadd, 1) := by decide +kernel
theorem dX8_handler_60 : decode cX8_handler 60 = .ok (.invokevirtual 103, 3) := by decide +kernel
theorem dX8_handler_63 : decode cX8_handler 63 = .ok (.goto 37, 3) := by decide +kernel
theorem dX8_handler_66 : decode cX8_handler 66 = .ok (.iload_n 3, 1) := by decide +kernel
theorem dX8_handler_67 : decode cX8_handler 67 = .ok (.iconst 2, 1) := by decide +kernel
theorem dX8_handler_68 : decode cX8_handler 68 = .ok (.if_icmp .ne 15, 3) := by decide +kernel
theorem dX8_handler_71 : decode cX8_handler 71 = .ok (.aload_n 0, 1) := by decide +kernel
theorem dX8_handler_72 : decode cX8_handler 72 = .ok (.getfield 13, 3) := by decide +kernel
theorem dX8_handler_75 : decode cX8_handler 75 = .ok (.iload 4, 2) := by decide +kernel
theorem dX8_handler_77 : decode cX8_handler 77 = .ok (.iconst 4, 1) := by decide +kernel
theorem dX8_handler_78 : decode cX8_handler 78 = .ok (.iadd, 1) := by decide +kernel
theorem dX8_handler_79 : decode cX8_handler 79 = .ok (.iaload, 1) := by decide +kernel
theorem dX8_handler_80 : decode cX8_handler 80 = .ok (.goto 20, 3) := by decide +kernel
theorem dX8_handler_83 : decode cX8_handler 83 = .ok (.iload_n 3, 1) := by decide +kernel
theorem dX8_handler_84 : decode cX8_handler 84 = .ok (.iconst 3, 1) := by decide +kernel
theorem dX8_handler_85 : decode cX8_handler 85 = .ok (.if_icmp .ne 14, 3) := by decide +kernel
theorem dX8_handler_88 : decode cX8_handler 88 = .ok (.aload_n 0, 1) := by decide +kernel
theorem dX8_handler_89 : decode cX8_handler 89 = .ok (.iload 4, 2) := by decide +kernel
theorem dX8_handler_91 : decode cX8_handler 91 = .ok (.iconst 5, 1) := by decide +kernel
theorem dX8_handler_92 : decode cX8_handler 92 = .ok (.iadd, 1) := by decide +kernel
theorem dX8_handler_93 : decode cX8_handler 93 = .ok (.invokevirtual 103, 3) := by decide +kernel
theorem dX8_handler_96 : decode cX8_handler 96 = .ok (.goto 4, 3) := by decide +kernel
theorem dX8_handler_99 : decode cX8_handler 99 = .ok (.iconst (-1), 1) := by decide +kernel
theorem dX8_handler_100 : decode cX8_handler 100 = .ok (.ireturn, 1) := by decide +kernel
set_option maxRecDepth 20000 in
theorem ggX8_instruction_X8_isMethod : GoodIn wsX8_instruction wsX8_isMethod := goodIn_r _ [7, 8, 9, 23, 24, 25, 26, 27, 28, 29, 30, 31, 32, 33, 34, 35, 36, 37, 38, 39, 40, 41, 42, 43, 44, 45, 46, 47, 48, 49, 50] (by decide +kernel) (by decide +kernel)
set_option maxRecDepth 20000 in
theorem gX8_instruction_X8_isMethod : GoodIn wsX8_instruction (wsV RX8 159 RX8 yX8_isMethod wsX8_isMethod) := goodIn_app (goodIn_of _ (by decide +kernel)) ggX8_instruction_X8_isMethod
set_option maxRecDepth 20000 in
theorem ggX8_instruction_X8_isBegin : GoodIn wsX8_instruction wsX8_isBegin := goodIn_r _ [13, 14, 15, 1, 23, 24, 25, 26, 27, 28, 29, 30, 31, 32, 33, 34, 35, 36, 37, 38, 39, 40, 41, 42, 43, 44, 45, 46, 47, 48, 49, 50] (by decide +kernel) (by decide +kernel)
set_option maxRecDepth 20000 in
theorem gX8_instruction_X8_isBegin : GoodIn wsX8_instruction (wsV RX8 139 RX8 yX8_isBegin wsX8_isBegin) := goodIn_app (goodIn_of _ (by decide +kernel)) ggX8_instruction_X8_isBegin
set_option maxRecDepth 20000 in
theorem ggX8_instruction_X8_wide : GoodIn wsX8_instruction wsX8_wide := goodIn_r _ [18] (by decide +kernel) (by decide +kernel)
set_option maxRecDepth 20000 in
theorem gX8_instruction_X8_wide : GoodIn wsX8_instruction (va_wsS RX8 114 yX8_wide wsX8_wide) := goodIn_app (goodIn_of _ (by decide +kernel)) ggX8_instruction_X8_wide
set_option maxRecDepth 20000 in
theorem ggX8_instruction_X8_two : GoodIn wsX8_instruction wsX8_two := goodIn_r _ [22, 2, 23, 24, 25, 26, 27, 28, 29, 30, 31, 32, 33, 34, 35, 36, 37, 38, 39, 40, 41, 42, 43, 44, 45, 46, 47, 48, 49, 50] (by decide +kernel) (by decide +kernel)
set_option maxRecDepth 20000 in
theorem gX8_instruction_X8_two : GoodIn wsX8_instruction (wsV RX8 103 RX8 yX8_two wsX8_two) := goodIn_app (goodIn_of _ (by decide +kernel)) ggX8_instruction_X8_two
theorem dX8_instruction_0 : decode cX8_instruction 0 = .ok (.aload_n 0, 1) := by decide +kernel
theorem dX8_instruction_1 : decode cX8_instruction 1 = .ok (.iload_n 1, 1) := by decide +kernel
theorem dX8_instruction_2 : decode cX8_instruction 2 = .ok (.invokevirtual 159, 3) := by decide +kernel
theorem dX8_instruction_5 : decode cX8_instruction 5 = .ok (.ifCond .eq 25, 3) := by decide +kernel
theorem dX8_instruction_8 : decode cX8_instruction 8 = .ok (.iload_n 2, 1) := by decide +kernel
theorem dX8_instruction_9 : decode cX8_instruction 9 = .ok (.ifCond .lt 21, 3) := by decide +kernel
theorem dX8_instruction_12 : decode cX8_instruction 12 = .ok (.aload_n 0, 1) := by decide +kernel
theorem dX8_instruction_13 : decode cX8_instruction 13 = .ok (.iload_n 1, 1) := by decide +kernel
theorem dX8_instruction_14 : decode cX8_instruction 14 = .ok (.iload_n 2, 1) := by decide +kernel
theorem dX8_instruction_15 : decode cX8_instruction 15 = .ok (.invokevirtual 139, 3) := by decide +kernel
theorem dX8_instruction_18 : decode cX8_instruction 18 = .ok (.ifCond .eq 12, 3) := by decide +kernel
theorem dX8_instruction_21 : decode cX8_instruction 21 = .ok (.iload_n 3, 1) := by decide +kernel
theorem dX8_instruction_22 : decode cX8_instruction 22 = .ok (.ifCond .lt 8, 3) := by decide +kernel
theorem dX8_instruction_25 : decode cX8_instruction 25 = .ok (.iload_n 3, 1) := by decide +kernel
theorem dX8_instruction_26 : decode cX8_instruction 26 = .ok (.iconst 3, 1) := by decide +kernel
theorem dX8_instruction_27 : decode cX8_instruction 27 = .ok (.if_icmp .le 5, 3) := by decide +kernel
theorem dX8_instruction_30 : decode cX8_instruction 30 = .ok (.iconst (-1), 1) := by decide +kernel
theorem dX8_instruction_31 : decode cX8_instruction 31 = .ok (.ireturn, 1) := by decide +kernel
theorem dX8_instruction_32 : decode cX8_instruction 32 = .ok (.aload_n 0, 1) := by decide +kernel
theorem dX8_instruction_33 : decode cX8_instruction 33 = .ok (.getfield 56, 3) := by decide +kernel
theorem dX8_instruction_36 : decode cX8_instruction 36 = .ok (.iload_n 1, 1) := by decide +kernel
theorem dX8_instruction_37 : decode cX8_instruction 37 = .ok (.iaload, 1) := by decide +kernel
theorem dX8_instruction_38 : decode cX8_instruction 38 = .ok (.iload_n 2, 1) := by decide +kernel
theorem dX8_instruction_39 : decode cX8_instruction 39 = .ok (.iadd, 1) := by decide +kernel
theorem dX8_instruction_40 : decode cX8_instruction 40 = .ok (.istore 4, 2) := by decide +kernel
theorem dX8_instruction_42 : decode cX8_instruction 42 = .ok (.aload_n 0, 1) := by decide +kernel
theorem dX8_instruction_43 : decode cX8_instruction 43 = .ok (.getfield 13, 3) := by decide +kernel
theorem dX8_instruction_46 : decode cX8_instruction 46 = .ok (.iload 4, 2) := by decide +kernel
theorem dX8_instruction_48 : decode cX8_instruction 48 = .ok (.iaload, 1) := by decide +kernel
theorem dX8_instruction_49 : decode cX8_instruction 49 = .ok (.istore 5, 2) := by decide +kernel
theorem dX8_instruction_51 : decode cX8_instruction 51 = .ok (.iload 5, 2) := by decide +kernel
theorem dX8_instruction_53 : decode cX8_instruction 53 = .ok (.invokestatic 114, 3) := by decide +kernel
theorem dX8_instruction_56 : decode cX8_instruction 56 = .ok (.istore 6, 2) := by decide +kernel
theorem dX8_instruction_58 : decode cX8_instruction 58 = .ok (.iload_n 3, 1) := by decide +kernel
theorem dX8_instruction_59 : decode cX8_instruction 59 = .ok (.ifCond .ne 6, 3) := by decide +kernel
theorem dX8_instruction_62 : decode cX8_instruction 62 = .ok (.iload 5, 2) := by decide +kernel
theorem dX8_instruction_64 : decode cX8_instruction 64 = .ok (.ireturn, 1) := by decide +kernel
theorem dX8_instruction_65 : decode cX8_instruction 65 = .ok (.iload_n 3, 1) := by decide +kernel
theorem dX8_instruction_66 : decode cX8_instruction 66 = .ok (.iconst 3, 1) := by decide +kernel
theorem dX8_instruction_67 : decode cX8_instruction 67 = .ok (.if_icmp .ne 8, 3) := by decide +kernel
theorem dX8_instruction_70 : decode cX8_instruction 70 = .ok (.iload_n 2, 1) := by decide +kernel
theorem dX8_instruction_71 : decode cX8_instruction 71 = .ok (.iload 6, 2) := by decide +kernel
theorem dX8_instruction_73 : decode cX8_instruction 73 = .ok (.iadd, 1) := by decide +kernel
theorem dX8_instruction_74 : decode cX8_instruction 74 = .ok (.ireturn, 1) := by decide +kernel
theorem dX8_instruction_75 : decode cX8_instruction 75 = .ok (.iload 5, 2) := by decide +kernel
theorem dX8_instruction_77 : decode cX8_instruction 77 = .ok (.ifCond .ne 33, 3) := by decide +kernel
theorem dX8_instruction_80 : decode cX8_instruction 80 = .ok (.iload_n 3, 1) := by decide +kernel
theorem dX8_instruction_81 : decode cX8_instruction 81 = .ok (.iconst 1, 1) := by decide +kernel
theorem dX8_instruction_82 : decode cX8_instruction 82 = .ok (.if_icmp .ne 26, 3) := by decide +kernel
theorem dX8_instruction_85 : decode cX8_instruction 85 = .ok (.aload_n 0, 1) := by decide +kernel
theorem dX8_instruction_86 : decode cX8_instruction 86 = .ok (.iload 4, 2) := by decide +kernel
theorem dX8_instruction_88 : decode cX8_instruction 88 = .ok (.iconst 1, 1) := by decide +kernel
theorem dX8_instruction_89 : decode cX8_instruction 89 = .ok (.iadd, 1) := by decide +kernel
theorem dX8_instruction_90 : decode cX8_instruction 90 = .ok (.invokevirtual 103, 3) := by decide +kernel
theorem dX8_instruction_93 : decode cX8_instruction 93 = .ok (.bipush 16, 2) := by decide +kernel
theorem dX8_instruction_95 : decode cX8_instruction 95 = .ok (.ishl, 1) := by decide +kernel
theorem dX8_instruction_96 : decode cX8_instruction 96 = .ok (.aload_n 0, 1) := by decide +kernel
theorem dX8_instruction_97 : decode cX8_instruction 97 = .ok (.iload 4, 2) := by decide +kernel
theorem dX8_instruction_99 : decode cX8_instruction 99 = .ok (.iconst 3, 1) := by decide +kernel
theorem dX8_instruction_100 : decode cX8_instruction 100 = .ok (.iadd, 1) := by decide +kernel
theorem dX8_instruction_101 : decode cX8_instruction 101 = .ok (.invokevirtual 103, 3) := by decide +kernel
theorem dX8_instruction_104 : decode cX8_instruction 104 = .ok (.ior, 1) := by decide +kernel
theorem dX8_instruction_105 : decode cX8_instruction 105 = .ok (.goto 4, 3) := by decide +kernel
theorem dX8_instruction_108 : decode cX8_instruction 108 = .ok (.iconst 0, 1) := by decide +kernel
theorem dX8_instruction_109 : decode cX8_instruction 109 = .ok (.ireturn, 1) := by decide +kernel
theorem dX8_instruction_110 : decode cX8_instruction 110 = .ok (.iload 5, 2) := by decide +kernel
theorem dX8_instruction_112 : decode cX8_instruction 112 = .ok (.bipush 19, 2) := by decide +kernel
theorem dX8_instruction_114 : decode cX8_instruction 114 = .ok (.if_icmp .eq 10, 3) := by decide +kernel
theorem dX8_instruction_117 : decode cX8_instruction 117 = .ok (.iload 5, 2) := by decide +kernel
theorem dX8_instruction_119 : decode cX8_instruction 119 = .ok (.bipush 20, 2) := by decide +kernel
theorem dX8_instruction_121 : decode cX8_instruction 121 = .ok (.if_icmp .ne 29, 3) := by decide +kernel
theorem dX8_instruction_124 : decode cX8_instruction 124 = .ok (.iload_n 3, 1) := by decide +kernel
theorem dX8_instruction_125 : decode cX8_instruction 125 = .ok (.iconst 1, 1) := by decide +kernel
theorem dX8_instruction_126 : decode cX8_instruction 126 = .ok (.if_icmp .ne 15, 3) := by decide +kernel
theorem dX8_instruction_129 : decode cX8_instruction 129 = .ok (.aload_n 0, 1) := by decide +kernel
theorem dX8_instruction_130 : decode cX8_instruction 130 = .ok (.getfield 13, 3) := by decide +kernel
theorem dX8_instruction_133 : decode cX8_instruction 133 = .ok (.iload 4, 2) := by decide +kernel
theorem dX8_instruction_135 : decode cX8_instruction 135 = .ok (.iconst 1, 1) := by decide +kernel
theorem dX8_instruction_136 : decode cX8_instruction 136 = .ok (.iadd, 1) := by decide +kernel
theorem dX8_instruction_137 : decode cX8_instruction 137 = .ok (.iaload, 1) := by decide +kernel
theorem dX8_instruction_138 : decode cX8_instruction 138 = .ok (.goto 11, 3) := by decide +kernel
theorem dX8_instruction_141 : decode cX8_instruction 141 = .ok (.aload_n 0, 1) := by decide +kernel
theorem dX8_instruction_142 : decode cX8_instruction 142 = .ok (.iload 4, 2) := by decide +kernel
theorem dX8_instruction_144 : decode cX8_instruction 144 = .ok (.iconst 2, 1) := by decide +kernel
theorem dX8_instruction_145 : decode cX8_instruction 145 = .ok (.iadd, 1) := by decide +kernel
theorem dX8_instruction_146 : decode cX8_instruction 146 = .ok (.invokevirtual 103, 3) := by decide +kernel
theorem dX8_instruction_149 : decode cX8_instruction 149 = .ok (.ireturn, 1) := by decide +kernel
theorem dX8_instruction_150 : decode cX8_instruction 150 = .ok (.iload 5, 2) := by decide +kernel
theorem dX8_instruction_152 : decode cX8_instruction 152 = .ok (.bipush 21, 2) := by decide +kernel
theorem dX8_instruction_154 : decode cX8_instruction 154 = .ok (.if_icmp .lt 28, 3) := by decide +kernel
theorem dX8_instruction_157 : decode cX8_instruction 157 = .ok (.iload 5, 2) := by decide +kernel
theorem dX8_instruction_159 : decode cX8_instruction 159 = .ok (.bipush 25, 2) := by decide +kernel
theorem dX8_instruction_161 : decode cX8_instruction 161 = .ok (.if_icmp .gt 21, 3) := by decide +kernel
theorem dX8_instruction_164 : decode cX8_instruction 164 = .ok (.iload_n 3, 1) := by decide +kernel
theorem dX8_instruction_165 : decode cX8_instruction 165 = .ok (.iconst 1, 1) := by decide +kernel
theorem dX8_instruction_166 : decode cX8_instruction 166 = .ok (.if_icmp .ne 14, 3) := by decide +kernel
theorem dX8_instruction_169 : decode cX8_instruction 169 = .ok (.aload_n 0, 1) := by decide +kernel
theorem dX8_instruction_170 : decode cX8_instruction 170 = .ok (.iload 4, 2) := by decide +kernel
theorem dX8_instruction_172 : decode cX8_instruction 172 = .ok (.iconst 1, 1) := by decide +kernel
theorem dX8_instruction_173 : decode cX8_instruction 173 = .ok (.iadd, 1) := by decide +kernel
theorem dX8_instruction_174 : decode cX8_instruction 174 = .ok (.invokevirtual 103, 3) := by decide +kernel
theorem dX8_instruction_177 : decode cX8_instruction 177 = .ok (.goto 4, 3) := by decide +kernel
theorem dX8_instruction_180 : decode cX8_instruction 180 = .ok (.iconst 0, 1) := by decide +kernel
theorem dX8_instruction_181 : decode cX8_instruction 181 = .ok (.ireturn, 1) := by decide +kernel
theorem dX8_instruction_182 : decode cX8_instruction 182 = .ok (.iload_n 3, 1) := by decide +kernel
theorem dX8_instruction_183 : decode cX8_instruction 183 = .ok (.iload 6, 2) := by decide +kernel
theorem dX8_instruction_185 : decode cX8_instruction 185 = .ok (.if_icmp .ge 15, 3) := by decide +kernel
theorem dX8_instruction_188 : decode cX8_instruction 188 = .ok (.aload_n 0, 1) := by decide +kernel
theorem dX8_instruction_189 : decode cX8_instruction 189 = .ok (.getfield 13, 3) := by decide +kernel
theorem dX8_instruction_192 : decode cX8_instruction 192 = .ok (.iload 4, 2) := by decide +kernel
theorem dX8_instruction_194 : decode cX8_instruction 194 = .ok (.iload_n 3, 1) := by decide +kernel
theorem dX8_instruction_195 : decode cX8_instruction 195 = .ok (.iadd, 1) := by decide +kernel
theorem dX8_instruction_196 : decode cX8_instruction 196 = .ok (.iaload, 1) := by decide +kernel
theorem dX8_instruction_197 : decode cX8_instruction 197 = .ok (.goto 4, 3) := by decide +kernel
theorem dX8_instruction_200 : decode cX8_instruction 200 = .ok (.iconst 0, 1) := by decide +kernel
theorem dX8_instruction_201 : decode cX8_instruction 201 = .ok (.ireturn, 1) := by decide +kernel
theorem dX8_thrown_0 : decode cX8_thrown 0 = .ok (.aload_n 0, 1) := by decide +kernel
theorem dX8_thrown_1 : decode cX8_thrown 1 = .ok (.getfield 142, 3) := by decide +kernel
theorem dX8_thrown_4 : decode cX8_thrown 4 = .ok (.ifCond .eq 21, 3) := by decide +kernel
theorem dX8_thrown_7 : decode cX8_thrown 7 = .ok (.iload_n 1, 1) := by decide +kernel
theorem dX8_thrown_8 : decode cX8_thrown 8 = .ok (.ifCond .lt 17, 3) := by decide +kernel
theorem dX8_thrown_11 : decode cX8_thrown 11 = .ok (.iload_n 1, 1) := by decide +kernel
theorem dX8_thrown_12 : decode cX8_thrown 12 = .ok (.iconst 5, 1) := by decide +kernel
theorem dX8_thrown_13 : decode cX8_thrown 13 = .ok (.if_icmp .ge 12, 3) := by decide +kernel
theorem dX8_thrown_16 : decode cX8_thrown 16 = .ok (.aload_n 0, 1) := by decide +kernel
theorem dX8_thrown_17 : decode cX8_thrown 17 = .ok (.getfield 35, 3) := by decide +kernel
theorem dX8_thrown_20 : decode cX8_thrown 20 = .ok (.iload_n 1, 1) := by decide +kernel
theorem dX8_thrown_21 : decode cX8_thrown 21 = .ok (.iaload, 1) := by decide +kernel
theorem dX8_thrown_22 : decode cX8_thrown 22 = .ok (.goto 4, 3) := by decide +kernel
theorem dX8_thrown_25 : decode cX8_thrown 25 = .ok (.iconst (-1), 1) := by decide +kernel
theorem dX8_thrown_26 : decode cX8_thrown 26 = .ok (.ireturn, 1) := by decide +kernel
end
section
/-! The words of all walks: a state is a table of numbers (cell, place); a program text in logic is a partial function; each row of the machine follows it. -/
abbrev St : Type := Nat → Nat → Int32
def fu : Nat := 9000
def st (σ : St) (c k : Nat) (v : Int32) : St := fun d => if d = c then upd (σ c) k v else σ d
def ushr (x y : Int32) : Int32 := (x.toUInt32 >>> (y.toUInt32 &&& Int32.toUInt32 31)).toInt32
def nm {α β : Type} (e : α) (k : α → β) : β := k e
theorem nmE {α β : Type} {e x : α} {k : α → β} {y : β} (hx : x = e) (h : nm e k = y) : k x = y := by subst hx; exact h
def ix {α : Type} (n : Nat) (i : Int32) (x : Option α) : Option α := if i < 0 ∨ n ≤ i.toNatClampNeg then none else x
theorem ixE {α : Type} {n : Nat} {i : Int32} {x : Option α} {y : α} (h : ix n i x = some y) : vp_in i n ∧ x = some y := by
  unfold ix at h
  split at h
  · cases h
  · rename_i hc; exact ⟨hc, h⟩
def bo {α : Type} (v : Int32) (x : Option α) : Option α := if v = 0 ∨ v = 1 then x else none
theorem boE {α : Type} {v : Int32} {x : Option α} {y : α} (h : bo v x = some y) : (v = 0 ∨ v = 1) ∧ x = some y := by
  unfold bo at h
  split at h
  · rename_i hc; exact ⟨hc, h⟩
  · cases h
def b2 {α : Type} (o : Option (Int32 × St)) (k : Int32 → St → Option α) : Option α := match o with
  | some q => k q.1 q.2
  | none => none
theorem b2E {α : Type} {o : Option (Int32 × St)} {k : Int32 → St → Option α} {y : α} (h : b2 o k = some y) : ∃ (r : Int32) (σ : St), o = some (r, σ) ∧ k r σ = some y := by
  cases o with
  | none => cases h
  | some q => exact ⟨q.1, q.2, rfl, h⟩
def b1 {β α : Type} (o : Option β) (k : β → Option α) : Option α := match o with
  | some r => k r
  | none => none
theorem b1E {β α : Type} {o : Option β} {k : β → Option α} {y : α} (h : b1 o k = some y) : ∃ r : β, o = some r ∧ k r = some y := by
  cases o with
  | none => cases h
  | some r => exact ⟨r, rfl, h⟩
theorem itT {α : Type} {c : Prop} {dc : Decidable c} {a b y : α} (hc : c) (h : @ite α c dc a b = y) : a = y := by rw [if_pos hc] at h; exact h
theorem itF {α : Type} {c : Prop} {dc : Decidable c} {a b y : α} (hc : ¬ c) (h : @ite α c dc a b = y) : b = y := by rw [if_neg hc] at h; exact h
theorem nar01 {v : Int32} (h : v = 0 ∨ v = 1) : narrow .boolean (.int v) = .int v := by
  rcases h with rfl | rfl <;> rfl
theorem fit01 {v : Int32} (h : v = 0 ∨ v = 1) : fits .boolean (.int v) = true := by
  rcases h with rfl | rfl <;> rfl
/-- the three tables of Operands -/
def tF (k : Nat) : Int32 := ([1, 0, 2, 2, 0, 0, 0, 0, 0, 0, 0, 0, 0, 0, 0, 0, 0, 0, 0, 3, 3, 4, 4, 4, 4, 4, 5, 5, 5, 5, 5, 7, 0, 0, 0, 8, 5, 0, 0, 0, 0, 0] : List Int32).getD k 0
def tS (k : Nat) : Int32 := ([0, 0, 0, 0, 0, 0, 0, 0, 0, 0, 0, 0, 0, 0, 0, 0, 0, 0, 0, 4, 4, 0, 0, 0, 0, 0, 0, 6, 6, 0, 0, 0, 0, 0, 0, 0, 9, 0, 0, 0, 0, 0] : List Int32).getD k 0
def tW (k : Nat) : Int32 := ([0, 4, 1, 1, 2, 1, 1, 1, 1, 1] : List Int32).getD k 0
def Z1 (n : String) (zk L : Nat) (f : Nat → Int32) (base : Nat) (U : State) : Prop := va_Z RX4 n "[I" (.ref zk) (fun q => base ≤ q) U U.heap ∧ va_X zk L f U U.heap ∧ zk < base
def ZZ (z : Nat → Nat) (base : Nat) (U : State) : Prop := Z1 "FIRSTS" (z 0) 42 tF base U ∧ Z1 "SECONDS" (z 1) 42 tS base U ∧ Z1 "WIDTHS" (z 2) 10 tW base U
theorem Z1.go {n : String} {zk L : Nat} {f : Nat → Int32} {base : Nat} {s U : State} {A : Nat → Prop} {H : Heap} {locs : List Loc} (h : Z1 n zk L f base s) (hAb : ∀ q, A q → base ≤ q) (hbs : base ≤ s.heap.size) (hS : va_S A s.heap H locs) (hU : U.heap = H) (hvm : s.vm.Alike U.vm) : Z1 n zk L f base U := by
  obtain ⟨h1, h2, h3⟩ := h
  unfold Z1
  rw [hU]
  have k : ∀ a : Nat, a < s.heap.size → ¬ (base ≤ a) → H[a]? = s.heap[a]? := fun a ha hb => hS.2.1 a ha (fun q => hb (hAb a q))
  exact ⟨va_Z.moved hvm (va_Z.kept h1 k), va_X.moved hvm (va_X.kept h2 (k zk (Nat.lt_of_lt_of_le h3 hbs) (Nat.not_le.mpr h3))), h3⟩
theorem ZZ.go {z : Nat → Nat} {base : Nat} {s U : State} {A : Nat → Prop} {H : Heap} {locs : List Loc} (h : ZZ z base s) (hAb : ∀ q, A q → base ≤ q) (hbs : base ≤ s.heap.size) (hS : va_S A s.heap H locs) (hU : U.heap = H) (hvm : s.vm.Alike U.vm) : ZZ z base U :=
  ⟨h.1.go hAb hbs hS hU hvm, h.2.1.go hAb hbs hS hU hvm, h.2.2.go hAb hbs hS hU hvm⟩
theorem ZZ.blind {z : Nat → Nat} {base : Nat} {U : State} {g : JFrame} {mk : MethodId} {a : Array Value} (h : ZZ z base U) : ZZ z base (U.calling g mk a) :=
  ⟨⟨va_Z.moved (Vm.Alike.refl U.vm) h.1.1, va_X.moved (u := U) (Vm.Alike.refl U.vm) h.1.2.1, h.1.2.2⟩, ⟨va_Z.moved (Vm.Alike.refl U.vm) h.2.1.1, va_X.moved (u := U) (Vm.Alike.refl U.vm) h.2.1.2.1, h.2.1.2.2⟩, ⟨va_Z.moved (Vm.Alike.refl U.vm) h.2.2.1, va_X.moved (u := U) (Vm.Alike.refl U.vm) h.2.2.2.1, h.2.2.2.2⟩⟩
/-- what a method's walk stands on, from its start on -/
def Cx (p : Program) (s : State) (m : MethodId) (args : Array Value) (c : Code) (D : va_G) (tys : List (ClassId × FieldType)) (A : Nat → Prop) (z : Nat → Nat) (base : Nat) (own : String) (Ts : List Cond) (cc : ByteArray) (nL : Nat) : Prop :=
  CallFix p m c cc nL s args Ts own ∧ va_K D vwCl tys s ∧ (∀ q, s.heap.size ≤ q → A q) ∧ (∀ q, A q → base ≤ q) ∧ base ≤ s.heap.size ∧ ZZ z base s
/-- the world now -/
def Wd (D : va_G) (A : Nat → Prop) (H0 H : Heap) (locs : List Loc) (ws : va_W) : Prop := va_P D vwCl ws H ∧ va_D A ws ∧ va_S A H0 H locs
def Pre (D : va_G) (tys : List (ClassId × FieldType)) (z : Nat → Nat) (base : Nat) (ws : va_W) (sz : Nat) : State → Prop := fun U => U.heap.size = sz ∧ va_P D vwCl ws U.heap ∧ va_K D vwCl tys U ∧ va_D (fun q => base ≤ q) ws ∧ base ≤ sz ∧ ZZ z base U
def Post (D : va_G) (tys : List (ClassId × FieldType)) (ws : va_W) (sz : Nat) : va_W → State → Prop := fun u t => va_P D vwCl u t.heap ∧ va_K D vwCl tys t ∧ va_D (va_A ws sz) u
def MI (l : Launch) (D : va_G) (tys : List (ClassId × FieldType)) (z : Nat → Nat) (base : Nat) (y : MethodName) (wsc : List Cond) (rm : Room) (vs : List Value) (ws : va_W) (r : Int32) (ws' : va_W) : Prop :=
  ∀ sz, Met l y wsc rm (va_Pc vs (Pre D tys z base ws sz)) (va_Qi (fun (r' : Int32) (u : va_W) => r' = r ∧ u = ws') (Post D tys ws sz) (va_A ws sz)) 0 0 (va_A ws sz)
def MV (l : Launch) (D : va_G) (tys : List (ClassId × FieldType)) (z : Nat → Nat) (base : Nat) (y : MethodName) (wsc : List Cond) (rm : Room) (vs : List Value) (ws : va_W) (ws' : va_W) : Prop :=
  ∀ sz, Met l y wsc rm (va_Pc vs (Pre D tys z base ws sz)) (va_Qv (fun (u : va_W) => u = ws') (Post D tys ws sz) (va_A ws sz)) 0 0 (va_A ws sz)
theorem Pre.blind {D : va_G} {tys : List (ClassId × FieldType)} {z : Nat → Nat} {base : Nat} {ws : va_W} {sz : Nat} {vs : List Value} : FrameBlind (va_Pc vs (Pre D tys z base ws sz)) := by
  intro a U g mk q
  obtain ⟨q0, q1, qP, qK, qD, qb, qZ⟩ := q
  exact ⟨q0, q1, qP, va_K.moved (u := U) (U := U.calling g mk a) (Vm.Alike.refl U.vm) qK, qD, qb, qZ.blind⟩
theorem Wd.free {D : va_G} {A : Nat → Prop} {H0 H : Heap} {locs : List Loc} {ws : va_W} (hw : Wd D A H0 H locs ws) (hA : ∀ q, H0.size ≤ q → A q) : ∀ q, va_A ws H.size q → A q := by
  intro q h
  rcases h with ⟨k, e, h⟩ | h
  · exact hw.2.1.2 k _ h
  · exact hA q (Nat.le_trans hw.2.2.1 h)
section BASE1
variable {p : Program} {l : Launch} {e : Env} {R : Room} {s : State} {m : MethodId} {args : Array Value} {below : List Frame} {meth : Method} {c : Code} {H : Heap} {locs : List Loc} {cells slots : Nat} {Q : State → Prop}
variable {D : va_G} {tys : List (ClassId × FieldType)} {A : Nat → Prop} {z : Nat → Nat} {base : Nat} {own : String} {Ts : List Cond} {cc : ByteArray} {nL : Nat} {ws ws' : va_W} {pc : Nat} {ls : Array Slot} {rest : List Value}
theorem Wd.pre {sz : Nat} (C : Cx p s m args c D tys A z base own Ts cc nL) (hw : Wd D A s.heap H locs ws) {vs : List Value} {a : Array Value} (ha : a = vs.toArray) : ∀ U : State, U.heap = H → s.WarmedH U.vm → sz = H.size → va_Pc vs (Pre D tys z base ws sz) a U := by
  intro U hU hW hsz
  refine ⟨ha, by rw [hU, hsz], by rw [hU]; exact hw.1, va_K.moved hW.alike C.2.1, hw.2.1.weaken (fun _ q _ h => C.2.2.2.1 q.1 h), ?_, C.2.2.2.2.2.go C.2.2.2.1 C.2.2.2.2.1 hw.2.2 hU hW.alike⟩
  rw [hsz]
  exact Nat.le_trans C.2.2.2.2.1 hw.2.2.1
theorem r_get (C : Cx p s m args c D tys A z base own Ts cc nL) (hw : Wd D A s.heap H locs ws) {Cn : String} {T : u_T} {N ci index : Nat} (hin : ∀ w ∈ u_ws Cn T N, w ∈ Ts) (q0 : Nat) {a : Nat} {fs : List Value} (he : ws[q0]? = some (a, .inr (ci, fs))) (hc : vwCl[ci]? = some (Cn, T, N)) (k : Nat) (hk : k < N) (hlink : Cond.fieldLink own index (T k).1 (T k).2.1 (T k).2.2.1 ∈ Ts) {v : Value} (hv : fs[k]? = some v) (hdg : decode cc pc = .ok (.getfield index, 3))
    (kk : W p l e R s m args below meth c H locs cells slots Q (F0 m (pc + 3) ls (v :: rest))) : W p l e R s m args below meth c H locs cells slots Q (F0 m pc ls (.ref a :: rest)) :=
  va_get C.1.1 C.1.2.1 C.1.2.2.2.2 hin C.1.2.2.2.1 C.2.1 hw.1 q0 he hc k hk (C.1.2.2.2.2 _ hlink) (fun _ h => h) hv hdg kk
theorem r_put (C : Cx p s m args c D tys A z base own Ts cc nL) (hw : Wd D A s.heap H locs ws) {Cn : String} {T : u_T} {N ci index : Nat} (hin : ∀ w ∈ u_ws Cn T N, w ∈ Ts) (ty0 : Nat → FieldType) (hty : ∀ k, k < N → parseFieldDescriptor (T k).2.2.1 = some (ty0 k)) (hnm : ∀ a, a < N → ∀ b, b < N → a ≠ b → (T a).2.1 ≠ (T b).2.1) (q0 : Nat) {a : Nat} {fs : List Value} (he : ws[q0]? = some (a, .inr (ci, fs))) (hc : vwCl[ci]? = some (Cn, T, N)) (k : Nat) (hk : k < N) (hlink : Cond.fieldLink own index (T k).1 (T k).2.1 (T k).2.2.1 ∈ Ts) (hfin : (T k).2.2.2 = false) {ty : FieldType} {v : Value} (hd : parseFieldDescriptor (T k).2.2.1 = some ty) (hn : narrow ty v = v) (hfit : fits ty v = true) (hl : k < fs.length)
    (hset : ws.set q0 (a, .inr (ci, fs.set k v)) = ws') (hdg : decode cc pc = .ok (.putfield index, 3)) (kk : ∀ (H1 : Heap) (locs1 : List Loc), Wd D A s.heap H1 locs1 ws' → W p l e R s m args below meth c H1 locs1 cells slots Q (F0 m (pc + 3) ls rest)) : W p l e R s m args below meth c H locs cells slots Q (F0 m pc ls (v :: .ref a :: rest)) := by
  refine va_put C.1.1 C.1.2.1 C.1.2.2.2.2 hin ty0 hty hnm C.1.2.2.2.1 C.2.1 hw.1 hw.2.1 hw.2.2 q0 he hc k hk (C.1.2.2.2.2 _ hlink) (fun _ h => h) hfin hd hn hfit hl hdg (fun H1 locs1 h1 h2 h3 => kk H1 locs1 ⟨?_, ?_, h3⟩)
  · rw [← hset]; exact h1
  · rw [← hset]; exact h2
theorem r_ald (C : Cx p s m args c D tys A z base own Ts cc nL) (hw : Wd D A s.heap H locs ws) (q0 t0 : Nat) {a : Nat} {cA : ClassId} {n : Nat} {f : Nat → Int32} (ha : ws[q0]? = some (a, .inl (cA, n, .inl f))) (ht : tys[t0]? = some (cA, .int)) {i : Int32} (hin : vp_in i n) (hdg : decode cc pc = .ok (.iaload, 1))
    (kk : W p l e R s m args below meth c H locs cells slots Q (F0 m (pc + 1) ls (.int (f i.toNatClampNeg) :: rest))) : W p l e R s m args below meth c H locs cells slots Q (F0 m pc ls (.int i :: .ref a :: rest)) :=
  va_iald C.1.1 C.1.2.1 C.2.1 hw.1 q0 t0 ha ht hin hdg kk
theorem r_zld (C : Cx p s m args c D tys A z base own Ts cc nL) (hw : Wd D A s.heap H locs ws) (q0 t0 : Nat) {a : Nat} {cA : ClassId} {n : Nat} {f : Nat → Int32} (ha : ws[q0]? = some (a, .inl (cA, n, .inl f))) (ht : tys[t0]? = some (cA, .boolean)) {i : Int32} (hin : vp_in i n) (hdg : decode cc pc = .ok (.baload, 1))
    (kk : W p l e R s m args below meth c H locs cells slots Q (F0 m (pc + 1) ls (.int (f i.toNatClampNeg) :: rest))) : W p l e R s m args below meth c H locs cells slots Q (F0 m pc ls (.int i :: .ref a :: rest)) :=
  va_zald C.1.1 C.1.2.1 C.2.1 hw.1 q0 t0 ha ht hin hdg kk
theorem r_ast (C : Cx p s m args c D tys A z base own Ts cc nL) (hw : Wd D A s.heap H locs ws) (q0 t0 : Nat) {a : Nat} {cA : ClassId} {n : Nat} {f : Nat → Int32} (ha : ws[q0]? = some (a, .inl (cA, n, .inl f))) (ht : tys[t0]? = some (cA, .int)) {i x : Int32} (hin : vp_in i n) (hset : ws.set q0 (a, .inl (cA, n, .inl (upd f i.toNatClampNeg x))) = ws') (hdg : decode cc pc = .ok (.iastore, 1))
    (kk : ∀ (H1 : Heap) (locs1 : List Loc), Wd D A s.heap H1 locs1 ws' → W p l e R s m args below meth c H1 locs1 cells slots Q (F0 m (pc + 1) ls rest)) : W p l e R s m args below meth c H locs cells slots Q (F0 m pc ls (.int x :: .int i :: .ref a :: rest)) := by
  refine va_iast C.1.1 C.1.2.1 C.2.1 hw.1 hw.2.1 hw.2.2 q0 t0 ha ht hin hdg (fun H1 locs1 h1 h2 h3 => kk H1 locs1 ⟨?_, ?_, h3⟩)
  · rw [← hset]; exact h1
  · rw [← hset]; exact h2
theorem r_zst (C : Cx p s m args c D tys A z base own Ts cc nL) (hw : Wd D A s.heap H locs ws) (q0 t0 : Nat) {a : Nat} {cA : ClassId} {n : Nat} {f : Nat → Int32} (ha : ws[q0]? = some (a, .inl (cA, n, .inl f))) (ht : tys[t0]? = some (cA, .boolean)) {i x : Int32} (hin : vp_in i n) (hx1 : vp_nar .boolean x = x) (hset : ws.set q0 (a, .inl (cA, n, .inl (upd f i.toNatClampNeg x))) = ws') (hdg : decode cc pc = .ok (.bastore, 1))
    (kk : ∀ (H1 : Heap) (locs1 : List Loc), Wd D A s.heap H1 locs1 ws' → W p l e R s m args below meth c H1 locs1 cells slots Q (F0 m (pc + 1) ls rest)) : W p l e R s m args below meth c H locs cells slots Q (F0 m pc ls (.int x :: .int i :: .ref a :: rest)) := by
  refine va_zast C.1.1 C.1.2.1 C.2.1 hw.1 hw.2.1 hw.2.2 q0 t0 ha ht hin hdg (fun H1 locs1 h1 h2 h3 => kk H1 locs1 ⟨?_, ?_, h3⟩)
  · rw [← hset]; rw [hx1] at h1; exact h1
  · rw [← hset]; rw [hx1] at h2; exact h2
theorem r_alen (C : Cx p s m args c D tys A z base own Ts cc nL) (hw : Wd D A s.heap H locs ws) (q0 t0 : Nat) {a : Nat} {cA : ClassId} {x : vp_A} (ha : ws[q0]? = some (a, .inl (cA, x))) {ty : FieldType} (ht : tys[t0]? = some (cA, ty)) {v : Int32} (hv : Int32.ofNat x.1 = v) (hdg : decode cc pc = .ok (.arraylength, 1))
    (kk : W p l e R s m args below meth c H locs cells slots Q (F0 m (pc + 1) ls (.int v :: rest))) : W p l e R s m args below meth c H locs cells slots Q (F0 m pc ls (.ref a :: rest)) :=
  va_alen C.1.1 C.1.2.1 C.2.1 hw.1 q0 t0 ha ht hv hdg kk
theorem r_gets {n : String} {zk L index : Nat} {f : Nat → Int32} (C : Cx p s m args c D tys A z base own Ts cc nL) (hw : Wd D A s.heap H locs ws) (hz : Z1 n zk L f base s) (hlink : Cond.fieldLink own index RX4 n "[I" ∈ Ts) (hdg : decode cc pc = .ok (.getstatic index, 3))
    (kk : W p l e R s m args below meth c H locs cells slots Q (F0 m (pc + 3) ls (.ref zk :: rest))) : W p l e R s m args below meth c H locs cells slots Q (F0 m pc ls rest) :=
  va_gets C.1.1 C.1.2.1 (hz.1.narrow C.2.2.2.1) hw.2.2 C.1.2.2.2.1 (C.1.2.2.2.2 _ hlink) (fun _ h => h) hdg kk
theorem r_sld {n : String} {zk L : Nat} {f : Nat → Int32} (C : Cx p s m args c D tys A z base own Ts cc nL) (hw : Wd D A s.heap H locs ws) (hz : Z1 n zk L f base s) {i : Int32} (hin : vp_in i L) (hdg : decode cc pc = .ok (.iaload, 1))
    (kk : W p l e R s m args below meth c H locs cells slots Q (F0 m (pc + 1) ls (.int (f i.toNatClampNeg) :: rest))) : W p l e R s m args below meth c H locs cells slots Q (F0 m pc ls (.int i :: .ref zk :: rest)) :=
  va_sld C.1.1 C.1.2.1 hz.2.1 (Nat.lt_of_lt_of_le hz.2.2 C.2.2.2.2.1) (fun h => Nat.not_le.mpr hz.2.2 (C.2.2.2.1 _ h)) hw.2.2 hin hdg kk
theorem r_slen {n : String} {zk L : Nat} {f : Nat → Int32} (C : Cx p s m args c D tys A z base own Ts cc nL) (hw : Wd D A s.heap H locs ws) (hz : Z1 n zk L f base s) (hdg : decode cc pc = .ok (.arraylength, 1))
    (kk : W p l e R s m args below meth c H locs cells slots Q (F0 m (pc + 1) ls (.int (Int32.ofNat L) :: rest))) : W p l e R s m args below meth c H locs cells slots Q (F0 m pc ls (.ref zk :: rest)) :=
  va_slen C.1.1 C.1.2.1 hz.2.1 (Nat.lt_of_lt_of_le hz.2.2 C.2.2.2.2.1) (fun h => Nat.not_le.mpr hz.2.2 (C.2.2.2.1 _ h)) hw.2.2 hdg kk
theorem r_max (C : Cx p s m args c D tys A z base own Ts cc nL) {index : Nat} (hml : ls.size = nL) (hlink : Cond.methodLink own index Lib.Math.max.name ∈ Ts) (hstat : Cond.static Lib.Math.max.name ∈ Ts) (hini : Cond.initialized "java/lang/Math" ∈ Ts) (hcode : Cond.code Lib.Math.max.name Lib.Math.max.code 2 (some .int) ∈ Ts)
    (hframes : 1 ≤ R.frames) (hlocals : (rest.map fun v => v.category).sum + 13 ≤ R.locals) (hc : cells ≤ R.cells) (hs : slots ≤ R.slots) {x y : Int32} (hdg : decode cc pc = .ok (.invokestatic index, 3))
    (kk : W p l e R s m args below meth c H locs cells slots Q (F0 m (pc + 3) ls (.int (if x < y then y else x) :: rest))) : W p l e R s m args below meth c H locs cells slots Q (F0 m pc ls (.int y :: .int x :: rest)) :=
  va_mmax C.1.1 C.1.2.1 (C.1.2.2.1.trans hml.symm) C.1.2.2.2.1 (C.1.2.2.2.2 _ hlink) (C.1.2.2.2.2 _ hstat) (C.1.2.2.2.2 _ hini) (C.1.2.2.2.2 _ hcode) hframes hlocals hc hs hdg kk
variable {y : MethodName} {wsc wsc' : List Cond} {rm : Room} {bytes : ByteArray} {maxL n index : Nat} {ret : Option FieldType} {Cn : String} {b : Addr} {As st0 : List Value} {r : Int32}
theorem r_callV (C : Cx p s m args c D tys A z base own Ts cc nL) (hw : Wd D A s.heap H locs ws) (hM : MI l D tys z base y wsc rm (.ref b :: As) ws r ws') (cw : CallW R s args own Cn index y bytes maxL ret wsc rm 0 0 n) (hrecv : ∃ cellB : Cell, H[b]? = some cellB ∧ cellB.vm.isStatics = false ∧ s.vm.findClass Cn = some cellB.cls)
    (hn : As.length = n) (hsize : ls.size = nL) (hstack : st0 = As.reverse ++ .ref b :: rest) (hW : (rest.map fun v => v.category).sum ≤ 8) (hdg : decode cc pc = .ok (.invokevirtual index, 3)) (hf : cells ≤ R.cells ∧ slots ≤ R.slots)
    (kk : ∀ (H1 : Heap) (locs1 : List Loc), Wd D A s.heap H1 locs1 ws' → W p l e R s m args below meth c H1 locs1 cells slots Q (F0 m (pc + 3) ls (.int r :: rest))) : W p l e R s m args below meth c H locs cells slots Q (F0 m pc ls st0) := by
  have hFc := hw.free C.2.2.1
  refine va_calli (va_runV (rest := rest) C.1 (hM H.size) cw ⟨Pre.blind, hrecv, fun U hU hW => Wd.pre C hw rfl U hU hW rfl⟩ rfl hn hsize hstack (lv_room hW) hdg hf) hw.2.2 (fun q _ h => hFc q h) hFc (fun r' u t H1 locs1 ht hvm hp hB hz1 hk1 hS => ?_)
  obtain ⟨rfl, rfl⟩ := hp
  obtain ⟨hP1, hK1, hD1⟩ := hB
  rw [ht] at hP1
  exact kk H1 locs1 ⟨hP1, hD1.weaken (fun k q _ h => hFc q.1 h), hS⟩
theorem r_callVv (C : Cx p s m args c D tys A z base own Ts cc nL) (hw : Wd D A s.heap H locs ws) (hM : MV l D tys z base y wsc rm (.ref b :: As) ws ws') (cw : CallW R s args own Cn index y bytes maxL ret wsc rm 0 0 n) (hrecv : ∃ cellB : Cell, H[b]? = some cellB ∧ cellB.vm.isStatics = false ∧ s.vm.findClass Cn = some cellB.cls)
    (hn : As.length = n) (hsize : ls.size = nL) (hstack : st0 = As.reverse ++ .ref b :: rest) (hW : (rest.map fun v => v.category).sum ≤ 8) (hdg : decode cc pc = .ok (.invokevirtual index, 3)) (hf : cells ≤ R.cells ∧ slots ≤ R.slots)
    (kk : ∀ (H1 : Heap) (locs1 : List Loc), Wd D A s.heap H1 locs1 ws' → W p l e R s m args below meth c H1 locs1 cells slots Q (F0 m (pc + 3) ls rest)) : W p l e R s m args below meth c H locs cells slots Q (F0 m pc ls st0) := by
  have hFc := hw.free C.2.2.1
  refine va_callv (va_runV (rest := rest) C.1 (hM H.size) cw ⟨Pre.blind, hrecv, fun U hU hW => Wd.pre C hw rfl U hU hW rfl⟩ rfl hn hsize hstack (lv_room hW) hdg hf) hw.2.2 (fun q _ h => hFc q h) hFc (fun u t H1 locs1 ht hvm hp hB hz1 hk1 hS => ?_)
  subst hp
  obtain ⟨hP1, hK1, hD1⟩ := hB
  rw [ht] at hP1
  exact kk H1 locs1 ⟨hP1, hD1.weaken (fun k q _ h => hFc q.1 h), hS⟩
theorem r_callS (C : Cx p s m args c D tys A z base own Ts cc nL) (hw : Wd D A s.heap H locs ws) (hM : MI l D tys z base y wsc rm As ws r ws') (cw : CallB R s args own index y bytes maxL ret wsc rm 0 0 n ∧ (Cond.static y).before args s = true)
    (hn : As.length = n) (hsize : ls.size = nL) (hstack : st0 = As.reverse ++ rest) (hW : (rest.map fun v => v.category).sum ≤ 8) (hdg : decode cc pc = .ok (.invokestatic index, 3)) (hf : cells ≤ R.cells ∧ slots ≤ R.slots)
    (kk : ∀ (H1 : Heap) (locs1 : List Loc), Wd D A s.heap H1 locs1 ws' → W p l e R s m args below meth c H1 locs1 cells slots Q (F0 m (pc + 3) ls (.int r :: rest))) : W p l e R s m args below meth c H locs cells slots Q (F0 m pc ls st0) := by
  have hFc := hw.free C.2.2.1
  refine va_calli (va_runS (rest := rest) C.1 (hM H.size) cw ⟨Pre.blind, fun U hU hW => Wd.pre C hw rfl U hU hW rfl⟩ rfl hn hsize hstack (lv_room hW) hdg hf) hw.2.2 (fun q _ h => hFc q h) hFc (fun r' u t H1 locs1 ht hvm hp hB hz1 hk1 hS => ?_)
  obtain ⟨rfl, rfl⟩ := hp
  obtain ⟨hP1, hK1, hD1⟩ := hB
  rw [ht] at hP1
  exact kk H1 locs1 ⟨hP1, hD1.weaken (fun k q _ h => hFc q.1 h), hS⟩
theorem r_callSv (C : Cx p s m args c D tys A z base own Ts cc nL) (hw : Wd D A s.heap H locs ws) (hM : MV l D tys z base y wsc rm As ws ws') (cw : CallB R s args own index y bytes maxL ret wsc rm 0 0 n ∧ (Cond.static y).before args s = true)
    (hn : As.length = n) (hsize : ls.size = nL) (hstack : st0 = As.reverse ++ rest) (hW : (rest.map fun v => v.category).sum ≤ 8) (hdg : decode cc pc = .ok (.invokestatic index, 3)) (hf : cells ≤ R.cells ∧ slots ≤ R.slots)
    (kk : ∀ (H1 : Heap) (locs1 : List Loc), Wd D A s.heap H1 locs1 ws' → W p l e R s m args below meth c H1 locs1 cells slots Q (F0 m (pc + 3) ls rest)) : W p l e R s m args below meth c H locs cells slots Q (F0 m pc ls st0) := by
  have hFc := hw.free C.2.2.1
  refine va_callv (va_runS (rest := rest) C.1 (hM H.size) cw ⟨Pre.blind, fun U hU hW => Wd.pre C hw rfl U hU hW rfl⟩ rfl hn hsize hstack (lv_room hW) hdg hf) hw.2.2 (fun q _ h => hFc q h) hFc (fun u t H1 locs1 ht hvm hp hB hz1 hk1 hS => ?_)
  subst hp
  obtain ⟨hP1, hK1, hD1⟩ := hB
  rw [ht] at hP1
  exact kk H1 locs1 ⟨hP1, hD1.weaken (fun k q _ h => hFc q.1 h), hS⟩
theorem r_iret {f : St → va_W} {v r : Int32} {σ s' : St} (hQ : ∀ (pc : Nat) (H : Heap) (locs : List Loc) (ls : Array Slot), decode cc pc = .ok (.ireturn, 1) → Wd D A s.heap H locs (f s') → W p l e R s m args below meth c H locs 0 0 Q (F0 m pc ls [.int r])) (h : some (v, σ) = some (r, s')) (hw : Wd D A s.heap H locs (f σ)) (hdg : decode cc pc = .ok (.ireturn, 1)) : W p l e R s m args below meth c H locs 0 0 Q (F0 m pc ls [.int v]) := by
  cases h
  exact hQ _ _ _ _ hdg hw
theorem r_iretP {v r : Int32} (hQ : ∀ (pc : Nat) (H : Heap) (locs : List Loc) (ls : Array Slot), decode cc pc = .ok (.ireturn, 1) → Wd D A s.heap H locs ws → W p l e R s m args below meth c H locs 0 0 Q (F0 m pc ls [.int r])) (h : some v = some r) (hw : Wd D A s.heap H locs ws) (hdg : decode cc pc = .ok (.ireturn, 1)) : W p l e R s m args below meth c H locs 0 0 Q (F0 m pc ls [.int v]) := by
  cases h
  exact hQ _ _ _ _ hdg hw
theorem r_zret {f : St → va_W} {v r : Int32} {σ s' : St} (hQ : ∀ (pc : Nat) (H : Heap) (locs : List Loc) (ls : Array Slot), decode cc pc = .ok (.ireturn, 1) → (r = 0 ∨ r = 1) → Wd D A s.heap H locs (f s') → W p l e R s m args below meth c H locs 0 0 Q (F0 m pc ls [.int r])) (hv : v = 0 ∨ v = 1) (h : some (v, σ) = some (r, s')) (hw : Wd D A s.heap H locs (f σ)) (hdg : decode cc pc = .ok (.ireturn, 1)) : W p l e R s m args below meth c H locs 0 0 Q (F0 m pc ls [.int v]) := by
  cases h
  exact hQ _ _ _ _ hdg hv hw
theorem r_zretP {v r : Int32} (hQ : ∀ (pc : Nat) (H : Heap) (locs : List Loc) (ls : Array Slot), decode cc pc = .ok (.ireturn, 1) → (r = 0 ∨ r = 1) → Wd D A s.heap H locs ws → W p l e R s m args below meth c H locs 0 0 Q (F0 m pc ls [.int r])) (hv : v = 0 ∨ v = 1) (h : some v = some r) (hw : Wd D A s.heap H locs ws) (hdg : decode cc pc = .ok (.ireturn, 1)) : W p l e R s m args below meth c H locs 0 0 Q (F0 m pc ls [.int v]) := by
  cases h
  exact hQ _ _ _ _ hdg hv hw
theorem r_vret {f : St → va_W} {σ s' : St} (hQ : ∀ (pc : Nat) (H : Heap) (locs : List Loc) (ls : Array Slot), decode cc pc = .ok (.return_, 1) → Wd D A s.heap H locs (f s') → W p l e R s m args below meth c H locs 0 0 Q (F0 m pc ls [])) (h : some σ = some s') (hw : Wd D A s.heap H locs (f σ)) (hdg : decode cc pc = .ok (.return_, 1)) : W p l e R s m args below meth c H locs 0 0 Q (F0 m pc ls []) := by
  cases h
  exact hQ _ _ _ _ hdg hw
theorem r_tabIn {dflt lo hi : Int} {offs : Array Int} {len : Nat} {x k : Int32} {off : Int} {tgt : Nat} (C : Cx p s m args c D tys A z base own Ts cc nL) (hc : x = k) (hdg : decode cc pc = .ok (.tableswitch dflt lo hi offs, len)) (h1 : ¬ k.toInt < lo) (h2 : ¬ hi < k.toInt) (ho : offs[(k.toInt - lo).toNat]? = some off) (ht : (pc : Int) + off = (tgt : Int))
    (kk : W p l e R s m args below meth c H locs cells slots Q (F0 m tgt ls rest)) : W p l e R s m args below meth c H locs cells slots Q (F0 m pc ls (.int x :: rest)) := by
  subst hc
  exact lv_tableIn C.1.1 C.1.2.1 hdg h1 h2 ho ht kk
end BASE1
section BASE2
variable {l : Launch} {D : va_G} {tys : List (ClassId × FieldType)} {z : Nat → Nat} {base : Nat} {own : String} {y : MethodName} {wsc wsc' : List Cond} {rm : Room} {cc : ByteArray} {maxL : Nat} {vs : List Value} {ws ws' : va_W} {r : Int32}
theorem MI.ofI (hy : plainName y.cls = true) (ho : y.cls = own) (hw0 : wsc = Cond.code y cc maxL (some .int) :: wsc') (hlen : (lg_sl vs).length ≤ maxL)
    (body : ∀ (p : Program) (e : Env) (s : State) (m : MethodId) (args : Array Value) (below : List Frame) (meth : Method) (c : Code) (A : Nat → Prop) (Q : State → Prop) (ls : Array Slot), Cx p s m args c D tys A z base own wsc cc maxL → lv_has ls maxL (lv_args 0 vs) → Wd D A s.heap s.heap [] ws →
      (∀ (pc : Nat) (H : Heap) (locs : List Loc) (ls : Array Slot), decode cc pc = .ok (.ireturn, 1) → Wd D A s.heap H locs ws' → W p l e rm s m args below meth c H locs 0 0 Q (F0 m pc ls [.int r])) → W p l e rm s m args below meth c s.heap [] 0 0 Q (F0 m 0 ls [])) : MI l D tys z base y wsc rm vs ws r ws' := by
  intro sz
  refine Met.ofW (cc := cc) (maxL := maxL) (ret := some .int) hy hw0 ?_
  intro p e s m args below meth c s₁ B hml hv
  obtain ⟨hargs, hsz, hP, hK, hD0, hbs, hZ⟩ := hv
  subst hsz
  have hx := B.exec
  have hb := B.bytes
  have hr := B.returns
  have hts := atoms_spec (ws := wsc) B.pre
  have hown : s.vm.findClass own = some m.cls := by rw [← ho]; exact findClass_of_methodNamed B.named
  have hlocks := B.notSynchronized
  have hD := hD0.self (sz := s.heap.size)
  have hl := lv_entry vs (n := maxL) hlen
  rw [show entryFrame m args maxL = F0 m 0 ((lg_sl vs ++ List.replicate (maxL - (lg_sl vs).length) Slot.unset).toArray) [] from by rw [hargs]; exact lg_entry_eq m vs maxL]
  refine body p e s m args below meth c (va_A ws s.heap.size) _ _ ⟨⟨hx, hb, hml, hown, hts⟩, hK, fun q h => Or.inr h, ?_, hbs, hZ⟩ hl ⟨hP, hD, va_S.rf⟩ ?_
  · intro q h
    rcases h with ⟨k, e, h⟩ | h
    · exact hD0.2 k _ h
    · exact Nat.le_trans hbs h
  · intro pc H locs ls hd hw
    exact W.iret hx hb hr (fun t ht hW => ⟨⟨r, ws', rfl, ⟨rfl, rfl⟩, by rw [ht]; exact hw.1, va_K.moved hW.alike hK, hw.2.1⟩, hw.2.2.F ht⟩) hw.2.2.2.2 hd
theorem MI.ofZ (hy : plainName y.cls = true) (ho : y.cls = own) (hw0 : wsc = Cond.code y cc maxL (some .boolean) :: wsc') (hlen : (lg_sl vs).length ≤ maxL)
    (body : ∀ (p : Program) (e : Env) (s : State) (m : MethodId) (args : Array Value) (below : List Frame) (meth : Method) (c : Code) (A : Nat → Prop) (Q : State → Prop) (ls : Array Slot), Cx p s m args c D tys A z base own wsc cc maxL → lv_has ls maxL (lv_args 0 vs) → Wd D A s.heap s.heap [] ws →
      (∀ (pc : Nat) (H : Heap) (locs : List Loc) (ls : Array Slot), decode cc pc = .ok (.ireturn, 1) → (r = 0 ∨ r = 1) → Wd D A s.heap H locs ws' → W p l e rm s m args below meth c H locs 0 0 Q (F0 m pc ls [.int r])) → W p l e rm s m args below meth c s.heap [] 0 0 Q (F0 m 0 ls [])) : MI l D tys z base y wsc rm vs ws r ws' := by
  intro sz
  refine Met.ofW (cc := cc) (maxL := maxL) (ret := some .boolean) hy hw0 ?_
  intro p e s m args below meth c s₁ B hml hv
  obtain ⟨hargs, hsz, hP, hK, hD0, hbs, hZ⟩ := hv
  subst hsz
  have hx := B.exec
  have hb := B.bytes
  have hr := B.returns
  have hts := atoms_spec (ws := wsc) B.pre
  have hown : s.vm.findClass own = some m.cls := by rw [← ho]; exact findClass_of_methodNamed B.named
  have hlocks := B.notSynchronized
  have hD := hD0.self (sz := s.heap.size)
  have hl := lv_entry vs (n := maxL) hlen
  rw [show entryFrame m args maxL = F0 m 0 ((lg_sl vs ++ List.replicate (maxL - (lg_sl vs).length) Slot.unset).toArray) [] from by rw [hargs]; exact lg_entry_eq m vs maxL]
  refine body p e s m args below meth c (va_A ws s.heap.size) _ _ ⟨⟨hx, hb, hml, hown, hts⟩, hK, fun q h => Or.inr h, ?_, hbs, hZ⟩ hl ⟨hP, hD, va_S.rf⟩ ?_
  · intro q h
    rcases h with ⟨k, e, h⟩ | h
    · exact hD0.2 k _ h
    · exact Nat.le_trans hbs h
  · intro pc H locs ls hd h01 hw
    exact W.zret hx hb hr (nar01 h01) (fun t ht hW => ⟨⟨r, ws', rfl, ⟨rfl, rfl⟩, by rw [ht]; exact hw.1, va_K.moved hW.alike hK, hw.2.1⟩, hw.2.2.F ht⟩) hw.2.2.2.2 hd
theorem MV.of (hy : plainName y.cls = true) (ho : y.cls = own) (hw0 : wsc = Cond.code y cc maxL none :: wsc') (hlen : (lg_sl vs).length ≤ maxL)
    (body : ∀ (p : Program) (e : Env) (s : State) (m : MethodId) (args : Array Value) (below : List Frame) (meth : Method) (c : Code) (A : Nat → Prop) (Q : State → Prop) (ls : Array Slot), Cx p s m args c D tys A z base own wsc cc maxL → lv_has ls maxL (lv_args 0 vs) → Wd D A s.heap s.heap [] ws →
      (∀ (pc : Nat) (H : Heap) (locs : List Loc) (ls : Array Slot), decode cc pc = .ok (.return_, 1) → Wd D A s.heap H locs ws' → W p l e rm s m args below meth c H locs 0 0 Q (F0 m pc ls [])) → W p l e rm s m args below meth c s.heap [] 0 0 Q (F0 m 0 ls [])) : MV l D tys z base y wsc rm vs ws ws' := by
  intro sz
  refine Met.ofW (cc := cc) (maxL := maxL) (ret := none) hy hw0 ?_
  intro p e s m args below meth c s₁ B hml hv
  obtain ⟨hargs, hsz, hP, hK, hD0, hbs, hZ⟩ := hv
  subst hsz
  have hx := B.exec
  have hb := B.bytes
  have hr := B.returns
  have hts := atoms_spec (ws := wsc) B.pre
  have hown : s.vm.findClass own = some m.cls := by rw [← ho]; exact findClass_of_methodNamed B.named
  have hlocks := B.notSynchronized
  have hD := hD0.self (sz := s.heap.size)
  have hl := lv_entry vs (n := maxL) hlen
  rw [show entryFrame m args maxL = F0 m 0 ((lg_sl vs ++ List.replicate (maxL - (lg_sl vs).length) Slot.unset).toArray) [] from by rw [hargs]; exact lg_entry_eq m vs maxL]
  refine body p e s m args below meth c (va_A ws s.heap.size) _ _ ⟨⟨hx, hb, hml, hown, hts⟩, hK, fun q h => Or.inr h, ?_, hbs, hZ⟩ hl ⟨hP, hD, va_S.rf⟩ ?_
  · intro q h
    rcases h with ⟨k, e, h⟩ | h
    · exact hD0.2 k _ h
    · exact Nat.le_trans hbs h
  · intro pc H locs ls hd hw
    exact W.vret hx hb hr (fun t ht hW => ⟨⟨ws', rfl, rfl, by rw [ht]; exact hw.1, va_K.moved hW.alike hK, hw.2.1⟩, hw.2.2.F ht⟩) hw.2.2.2.2 hd
end BASE2
end
section
def XW (cI cZ : ClassId) (a : Nat → Nat) (σ : St) : va_W := [(a 0, .inr (6, [.ref (a 1), .ref (a 2), .ref (a 3), .ref (a 4)])),
  (a 1, .inr (5, [.ref (a 7), .int (σ 1 1)])),
  (a 2, .inr (4, [.ref (a 8), .int (σ 2 1), .int (σ 2 2), .int (σ 2 3)])),
  (a 3, .inr (0, [.int (σ 3 0), .ref (a 9), .ref (a 10), .ref (a 11), .ref (a 12), .ref (a 13), .ref (a 14)])),
  (a 4, .inr (3, [.int (σ 4 0), .int (σ 4 1), .ref (a 15), .ref (a 16), .ref (a 17), .ref (a 18), .ref (a 19), .ref (a 20), .ref (a 5), .ref (a 6)])),
  (a 5, .inr (1, [.int (σ 5 0), .ref (a 21), .ref (a 22), .ref (a 23), .ref (a 24)])),
  (a 6, .inr (2, [.ref (a 25), .ref (a 26)])),
  (a 7, .inl (cI, 2000, .inl (σ 7))),
  (a 8, .inl (cI, 2000, .inl (σ 8))),
  (a 9, .inl (cI, 32, .inl (σ 9))),
  (a 10, .inl (cI, 32, .inl (σ 10))),
  (a 11, .inl (cI, 480, .inl (σ 11))),
  (a 12, .inl (cI, 512, .inl (σ 12))),
  (a 13, .inl (cI, 512, .inl (σ 13))),
  (a 14, .inl (cI, 5, .inl (σ 14))),
  (a 15, .inl (cI, 64, .inl (σ 15))),
  (a 16, .inl (cI, 64, .inl (σ 16))),
  (a 17, .inl (cI, 512, .inl (σ 17))),
  (a 18, .inl (cI, 64, .inl (σ 18))),
  (a 19, .inl (cI, 64, .inl (σ 19))),
  (a 20, .inl (cI, 64, .inl (σ 20))),
  (a 21, .inl (cI, 64, .inl (σ 21))),
  (a 22, .inl (cI, 64, .inl (σ 22))),
  (a 23, .inl (cI, 64, .inl (σ 23))),
  (a 24, .inl (cI, 250, .inl (σ 24))),
  (a 25, .inl (cI, 64, .inl (σ 25))),
  (a 26, .inl (cI, 64, .inl (σ 26)))]
theorem XWa_0 (cI cZ : ClassId) (a : Nat → Nat) (σ : St) : (XW cI cZ a σ)[0]? = some (a 0, .inr (6, [.ref (a 1), .ref (a 2), .ref (a 3), .ref (a 4)])) := rfl
theorem XWa_1 (cI cZ : ClassId) (a : Nat → Nat) (σ : St) : (XW cI cZ a σ)[1]? = some (a 1, .inr (5, [.ref (a 7), .int (σ 1 1)])) := rfl
theorem XWs_1_1 (cI cZ : ClassId) (a : Nat → Nat) (σ : St) (v : Int32) : (XW cI cZ a σ).set 1 (a 1, .inr (5, ([.ref (a 7), .int (σ 1 1)] : List Value).set 1 (.int v))) = XW cI cZ a (st σ 1 1 v) := rfl
theorem XWa_2 (cI cZ : ClassId) (a : Nat → Nat) (σ : St) : (XW cI cZ a σ)[2]? = some (a 2, .inr (4, [.ref (a 8), .int (σ 2 1), .int (σ 2 2), .int (σ 2 3)])) := rfl
theorem XWs_2_1 (cI cZ : ClassId) (a : Nat → Nat) (σ : St) (v : Int32) : (XW cI cZ a σ).set 2 (a 2, .inr (4, ([.ref (a 8), .int (σ 2 1), .int (σ 2 2), .int (σ 2 3)] : List Value).set 1 (.int v))) = XW cI cZ a (st σ 2 1 v) := rfl
theorem XWs_2_2 (cI cZ : ClassId) (a : Nat → Nat) (σ : St) (v : Int32) : (XW cI cZ a σ).set 2 (a 2, .inr (4, ([.ref (a 8), .int (σ 2 1), .int (σ 2 2), .int (σ 2 3)] : List Value).set 2 (.int v))) = XW cI cZ a (st σ 2 2 v) := rfl
theorem XWs_2_3 (cI cZ : ClassId) (a : Nat → Nat) (σ : St) (v : Int32) : (XW cI cZ a σ).set 2 (a 2, .inr (4, ([.ref (a 8), .int (σ 2 1), .int (σ 2 2), .int (σ 2 3)] : List Value).set 3 (.int v))) = XW cI cZ a (st σ 2 3 v) := rfl
theorem XWa_3 (cI cZ : ClassId) (a : Nat → Nat) (σ : St) : (XW cI cZ a σ)[3]? = some (a 3, .inr (0, [.int (σ 3 0), .ref (a 9), .ref (a 10), .ref (a 11), .ref (a 12), .ref (a 13), .ref (a 14)])) := rfl
theorem XWs_3_0 (cI cZ : ClassId) (a : Nat → Nat) (σ : St) (v : Int32) : (XW cI cZ a σ).set 3 (a 3, .inr (0, ([.int (σ 3 0), .ref (a 9), .ref (a 10), .ref (a 11), .ref (a 12), .ref (a 13), .ref (a 14)] : List Value).set 0 (.int v))) = XW cI cZ a (st σ 3 0 v) := rfl
theorem XWa_4 (cI cZ : ClassId) (a : Nat → Nat) (σ : St) : (XW cI cZ a σ)[4]? = some (a 4, .inr (3, [.int (σ 4 0), .int (σ 4 1), .ref (a 15), .ref (a 16), .ref (a 17), .ref (a 18), .ref (a 19), .ref (a 20), .ref (a 5), .ref (a 6)])) := rfl
theorem XWs_4_0 (cI cZ : ClassId) (a : Nat → Nat) (σ : St) (v : Int32) : (XW cI cZ a σ).set 4 (a 4, .inr (3, ([.int (σ 4 0), .int (σ 4 1), .ref (a 15), .ref (a 16), .ref (a 17), .ref (a 18), .ref (a 19), .ref (a 20), .ref (a 5), .ref (a 6)] : List Value).set 0 (.int v))) = XW cI cZ a (st σ 4 0 v) := rfl
theorem XWs_4_1 (cI cZ : ClassId) (a : Nat → Nat) (σ : St) (v : Int32) : (XW cI cZ a σ).set 4 (a 4, .inr (3, ([.int (σ 4 0), .int (σ 4 1), .ref (a 15), .ref (a 16), .ref (a 17), .ref (a 18), .ref (a 19), .ref (a 20), .ref (a 5), .ref (a 6)] : List Value).set 1 (.int v))) = XW cI cZ a (st σ 4 1 v) := rfl
theorem XWa_5 (cI cZ : ClassId) (a : Nat → Nat) (σ : St) : (XW cI cZ a σ)[5]? = some (a 5, .inr (1, [.int (σ 5 0), .ref (a 21), .ref (a 22), .ref (a 23), .ref (a 24)])) := rfl
theorem XWs_5_0 (cI cZ : ClassId) (a : Nat → Nat) (σ : St) (v : Int32) : (XW cI cZ a σ).set 5 (a 5, .inr (1, ([.int (σ 5 0), .ref (a 21), .ref (a 22), .ref (a 23), .ref (a 24)] : List Value).set 0 (.int v))) = XW cI cZ a (st σ 5 0 v) := rfl
theorem XWa_6 (cI cZ : ClassId) (a : Nat → Nat) (σ : St) : (XW cI cZ a σ)[6]? = some (a 6, .inr (2, [.ref (a 25), .ref (a 26)])) := rfl
theorem XWa_7 (cI cZ : ClassId) (a : Nat → Nat) (σ : St) : (XW cI cZ a σ)[7]? = some (a 7, .inl (cI, 2000, .inl (σ 7))) := rfl
theorem XWs_7 (cI cZ : ClassId) (a : Nat → Nat) (σ : St) (i : Nat) (v : Int32) : (XW cI cZ a σ).set 7 (a 7, .inl (cI, 2000, .inl (upd (σ 7) i v))) = XW cI cZ a (st σ 7 i v) := rfl
theorem XWa_8 (cI cZ : ClassId) (a : Nat → Nat) (σ : St) : (XW cI cZ a σ)[8]? = some (a 8, .inl (cI, 2000, .inl (σ 8))) := rfl
theorem XWs_8 (cI cZ : ClassId) (a : Nat → Nat) (σ : St) (i : Nat) (v : Int32) : (XW cI cZ a σ).set 8 (a 8, .inl (cI, 2000, .inl (upd (σ 8) i v))) = XW cI cZ a (st σ 8 i v) := rfl
theorem XWa_9 (cI cZ : ClassId) (a : Nat → Nat) (σ : St) : (XW cI cZ a σ)[9]? = some (a 9, .inl (cI, 32, .inl (σ 9))) := rfl
theorem XWs_9 (cI cZ : ClassId) (a : Nat → Nat) (σ : St) (i : Nat) (v : Int32) : (XW cI cZ a σ).set 9 (a 9, .inl (cI, 32, .inl (upd (σ 9) i v))) = XW cI cZ a (st σ 9 i v) := rfl
theorem XWa_10 (cI cZ : ClassId) (a : Nat → Nat) (σ : St) : (XW cI cZ a σ)[10]? = some (a 10, .inl (cI, 32, .inl (σ 10))) := rfl
theorem XWs_10 (cI cZ : ClassId) (a : Nat → Nat) (σ : St) (i : Nat) (v : Int32) : (XW cI cZ a σ).set 10 (a 10, .inl (cI, 32, .inl (upd (σ 10) i v))) = XW cI cZ a (st σ 10 i v) := rfl
theorem XWa_11 (cI cZ : ClassId) (a : Nat → Nat) (σ : St) : (XW cI cZ a σ)[11]? = some (a 11, .inl (cI, 480, .inl (σ 11))) := rfl
theorem XWs_11 (cI cZ : ClassId) (a : Nat → Nat) (σ : St) (i : Nat) (v : Int32) : (XW cI cZ a σ).set 11 (a 11, .inl (cI, 480, .inl (upd (σ 11) i v))) = XW cI cZ a (st σ 11 i v) := rfl
theorem XWa_12 (cI cZ : ClassId) (a : Nat → Nat) (σ : St) : (XW cI cZ a σ)[12]? = some (a 12, .inl (cI, 512, .inl (σ 12))) := rfl
theorem XWs_12 (cI cZ : ClassId) (a : Nat → Nat) (σ : St) (i : Nat) (v : Int32) : (XW cI cZ a σ).set 12 (a 12, .inl (cI, 512, .inl (upd (σ 12) i v))) = XW cI cZ a (st σ 12 i v) := rfl
theorem XWa_13 (cI cZ : ClassId) (a : Nat → Nat) (σ : St) : (XW cI cZ a σ)[13]? = some (a 13, .inl (cI, 512, .inl (σ 13))) := rfl
theorem XWs_13 (cI cZ : ClassId) (a : Nat → Nat) (σ : St) (i : Nat) (v : Int32) : (XW cI cZ a σ).set 13 (a 13, .inl (cI, 512, .inl (upd (σ 13) i v))) = XW cI cZ a (st σ 13 i v) := rfl
theorem XWa_14 (cI cZ : ClassId) (a : Nat → Nat) (σ : St) : (XW cI cZ a σ)[14]? = some (a 14, .inl (cI, 5, .inl (σ 14))) := rfl
theorem XWs_14 (cI cZ : ClassId) (a : Nat → Nat) (σ : St) (i : Nat) (v : Int32) : (XW cI cZ a σ).set 14 (a 14, .inl (cI, 5, .inl (upd (σ 14) i v))) = XW cI cZ a (st σ 14 i v) := rfl
theorem XWa_15 (cI cZ : ClassId) (a : Nat → Nat) (σ : St) : (XW cI cZ a σ)[15]? = some (a 15, .inl (cI, 64, .inl (σ 15))) := rfl
theorem XWs_15 (cI cZ : ClassId) (a : Nat → Nat) (σ : St) (i : Nat) (v : Int32) : (XW cI cZ a σ).set 15 (a 15, .inl (cI, 64, .inl (upd (σ 15) i v))) = XW cI cZ a (st σ 15 i v) := rfl
theorem XWa_16 (cI cZ : ClassId) (a : Nat → Nat) (σ : St) : (XW cI cZ a σ)[16]? = some (a 16, .inl (cI, 64, .inl (σ 16))) := rfl
theorem XWs_16 (cI cZ : ClassId) (a : Nat → Nat) (σ : St) (i : Nat) (v : Int32) : (XW cI cZ a σ).set 16 (a 16, .inl (cI, 64, .inl (upd (σ 16) i v))) = XW cI cZ a (st σ 16 i v) := rfl
theorem XWa_17 (cI cZ : ClassId) (a : Nat → Nat) (σ : St) : (XW cI cZ a σ)[17]? = some (a 17, .inl (cI, 512, .inl (σ 17))) := rfl
theorem XWs_17 (cI cZ : ClassId) (a : Nat → Nat) (σ : St) (i : Nat) (v : Int32) : (XW cI cZ a σ).set 17 (a 17, .inl (cI, 512, .inl (upd (σ 17) i v))) = XW cI cZ a (st σ 17 i v) := rfl
theorem XWa_18 (cI cZ : ClassId) (a : Nat → Nat) (σ : St) : (XW cI cZ a σ)[18]? = some (a 18, .inl (cI, 64, .inl (σ 18))) := rfl
theorem XWs_18 (cI cZ : ClassId) (a : Nat → Nat) (σ : St) (i : Nat) (v : Int32) : (XW cI cZ a σ).set 18 (a 18, .inl (cI, 64, .inl (upd (σ 18) i v))) = XW cI cZ a (st σ 18 i v) := rfl
theorem XWa_19 (cI cZ : ClassId) (a : Nat → Nat) (σ : St) : (XW cI cZ a σ)[19]? = some (a 19, .inl (cI, 64, .inl (σ 19))) := rfl
theorem XWs_19 (cI cZ : ClassId) (a : Nat → Nat) (σ : St) (i : Nat) (v : Int32) : (XW cI cZ a σ).set 19 (a 19, .inl (cI, 64, .inl (upd (σ 19) i v))) = XW cI cZ a (st σ 19 i v) := rfl
theorem XWa_20 (cI cZ : ClassId) (a : Nat → Nat) (σ : St) : (XW cI cZ a σ)[20]? = some (a 20, .inl (cI, 64, .inl (σ 20))) := rfl
theorem XWs_20 (cI cZ : ClassId) (a : Nat → Nat) (σ : St) (i : Nat) (v : Int32) : (XW cI cZ a σ).set 20 (a 20, .inl (cI, 64, .inl (upd (σ 20) i v))) = XW cI cZ a (st σ 20 i v) := rfl
theorem XWa_21 (cI cZ : ClassId) (a : Nat → Nat) (σ : St) : (XW cI cZ a σ)[21]? = some (a 21, .inl (cI, 64, .inl (σ 21))) := rfl
theorem XWs_21 (cI cZ : ClassId) (a : Nat → Nat) (σ : St) (i : Nat) (v : Int32) : (XW cI cZ a σ).set 21 (a 21, .inl (cI, 64, .inl (upd (σ 21) i v))) = XW cI cZ a (st σ 21 i v) := rfl
theorem XWa_22 (cI cZ : ClassId) (a : Nat → Nat) (σ : St) : (XW cI cZ a σ)[22]? = some (a 22, .inl (cI, 64, .inl (σ 22))) := rfl
theorem XWs_22 (cI cZ : ClassId) (a : Nat → Nat) (σ : St) (i : Nat) (v : Int32) : (XW cI cZ a σ).set 22 (a 22, .inl (cI, 64, .inl (upd (σ 22) i v))) = XW cI cZ a (st σ 22 i v) := rfl
theorem XWa_23 (cI cZ : ClassId) (a : Nat → Nat) (σ : St) : (XW cI cZ a σ)[23]? = some (a 23, .inl (cI, 64, .inl (σ 23))) := rfl
theorem XWs_23 (cI cZ : ClassId) (a : Nat → Nat) (σ : St) (i : Nat) (v : Int32) : (XW cI cZ a σ).set 23 (a 23, .inl (cI, 64, .inl (upd (σ 23) i v))) = XW cI cZ a (st σ 23 i v) := rfl
theorem XWa_24 (cI cZ : ClassId) (a : Nat → Nat) (σ : St) : (XW cI cZ a σ)[24]? = some (a 24, .inl (cI, 250, .inl (σ 24))) := rfl
theorem XWs_24 (cI cZ : ClassId) (a : Nat → Nat) (σ : St) (i : Nat) (v : Int32) : (XW cI cZ a σ).set 24 (a 24, .inl (cI, 250, .inl (upd (σ 24) i v))) = XW cI cZ a (st σ 24 i v) := rfl
theorem XWa_25 (cI cZ : ClassId) (a : Nat → Nat) (σ : St) : (XW cI cZ a σ)[25]? = some (a 25, .inl (cI, 64, .inl (σ 25))) := rfl
theorem XWs_25 (cI cZ : ClassId) (a : Nat → Nat) (σ : St) (i : Nat) (v : Int32) : (XW cI cZ a σ).set 25 (a 25, .inl (cI, 64, .inl (upd (σ 25) i v))) = XW cI cZ a (st σ 25 i v) := rfl
theorem XWa_26 (cI cZ : ClassId) (a : Nat → Nat) (σ : St) : (XW cI cZ a σ)[26]? = some (a 26, .inl (cI, 64, .inl (σ 26))) := rfl
theorem XWs_26 (cI cZ : ClassId) (a : Nat → Nat) (σ : St) (i : Nat) (v : Int32) : (XW cI cZ a σ).set 26 (a 26, .inl (cI, 64, .inl (upd (σ 26) i v))) = XW cI cZ a (st σ 26 i v) := rfl
def MW (cI cZ : ClassId) (a : Nat → Nat) (σ : St) : va_W := [(a 0, .inr (7, [.ref (a 1), .int (σ 0 1), .ref (a 2), .ref (a 3), .int (σ 0 4), .int (σ 0 5), .int (σ 0 6), .int (σ 0 7), .int (σ 0 8), .ref (a 4), .ref (a 5), .ref (a 6), .ref (a 7), .ref (a 8), .ref (a 9), .int (σ 0 15), .ref (a 10), .ref (a 11), .ref (a 12), .ref (a 13), .ref (a 14), .ref (a 15), .ref (a 16), .ref (a 17), .ref (a 18), .ref (a 19), .int (σ 0 26), .int (σ 0 27)])),
  (a 1, .inl (cI, 8000, .inl (σ 1))),
  (a 2, .inl (cI, 8000, .inl (σ 2))),
  (a 3, .inl (cZ, 8000, .inl (σ 3))),
  (a 4, .inl (cI, 32, .inl (σ 4))),
  (a 5, .inl (cI, 32, .inl (σ 5))),
  (a 6, .inl (cI, 480, .inl (σ 6))),
  (a 7, .inl (cI, 512, .inl (σ 7))),
  (a 8, .inl (cI, 512, .inl (σ 8))),
  (a 9, .inl (cI, 5, .inl (σ 9))),
  (a 10, .inl (cI, 64, .inl (σ 10))),
  (a 11, .inl (cI, 64, .inl (σ 11))),
  (a 12, .inl (cI, 512, .inl (σ 12))),
  (a 13, .inl (cI, 64, .inl (σ 13))),
  (a 14, .inl (cI, 64, .inl (σ 14))),
  (a 15, .inl (cI, 64, .inl (σ 15))),
  (a 16, .inl (cI, 64, .inl (σ 16))),
  (a 17, .inl (cI, 64, .inl (σ 17))),
  (a 18, .inl (cI, 64, .inl (σ 18))),
  (a 19, .inl (cI, 64, .inl (σ 19)))]
theorem MWa_0 (cI cZ : ClassId) (a : Nat → Nat) (σ : St) : (MW cI cZ a σ)[0]? = some (a 0, .inr (7, [.ref (a 1), .int (σ 0 1), .ref (a 2), .ref (a 3), .int (σ 0 4), .int (σ 0 5), .int (σ 0 6), .int (σ 0 7), .int (σ 0 8), .ref (a 4), .ref (a 5), .ref (a 6), .ref (a 7), .ref (a 8), .ref (a 9), .int (σ 0 15), .ref (a 10), .ref (a 11), .ref (a 12), .ref (a 13), .ref (a 14), .ref (a 15), .ref (a 16), .ref (a 17), .ref (a 18), .ref (a 19), .int (σ 0 26), .int (σ 0 27)])) := rfl
theorem MWs_0_1 (cI cZ : ClassId) (a : Nat → Nat) (σ : St) (v : Int32) : (MW cI cZ a σ).set 0 (a 0, .inr (7, ([.ref (a 1), .int (σ 0 1), .ref (a 2), .ref (a 3), .int (σ 0 4), .int (σ 0 5), .int (σ 0 6), .int (σ 0 7), .int (σ 0 8), .ref (a 4), .ref (a 5), .ref (a 6), .ref (a 7), .ref (a 8), .ref (a 9), .int (σ 0 15), .ref (a 10), .ref (a 11), .ref (a 12), .ref (a 13), .ref (a 14), .ref (a 15), .ref (a 16), .ref (a 17), .ref (a 18), .ref (a 19), .int (σ 0 26), .int (σ 0 27)] : List Value).set 1 (.int v))) = MW cI cZ a (st σ 0 1 v) := rfl
theorem MWs_0_4 (cI cZ : ClassId) (a : Nat → Nat) (σ : St) (v : Int32) : (MW cI cZ a σ).set 0 (a 0, .inr (7, ([.ref (a 1), .int (σ 0 1), .ref (a 2), .ref (a 3), .int (σ 0 4), .int (σ 0 5), .int (σ 0 6), .int (σ 0 7), .int (σ 0 8), .ref (a 4), .ref (a 5), .ref (a 6), .ref (a 7), .ref (a 8), .ref (a 9), .int (σ 0 15), .ref (a 10), .ref (a 11), .ref (a 12), .ref (a 13), .ref (a 14), .ref (a 15), .ref (a 16), .ref (a 17), .ref (a 18), .ref (a 19), .int (σ 0 26), .int (σ 0 27)] : List Value).set 4 (.int v))) = MW cI cZ a (st σ 0 4 v) := rfl
theorem MWs_0_5 (cI cZ : ClassId) (a : Nat → Nat) (σ : St) (v : Int32) : (MW cI cZ a σ).set 0 (a 0, .inr (7, ([.ref (a 1), .int (σ 0 1), .ref (a 2), .ref (a 3), .int (σ 0 4), .int (σ 0 5), .int (σ 0 6), .int (σ 0 7), .int (σ 0 8), .ref (a 4), .ref (a 5), .ref (a 6), .ref (a 7), .ref (a 8), .ref (a 9), .int (σ 0 15), .ref (a 10), .ref (a 11), .ref (a 12), .ref (a 13), .ref (a 14), .ref (a 15), .ref (a 16), .ref (a 17), .ref (a 18), .ref (a 19), .int (σ 0 26), .int (σ 0 27)] : List Value).set 5 (.int v))) = MW cI cZ a (st σ 0 5 v) := rfl
theorem MWs_0_6 (cI cZ : ClassId) (a : Nat → Nat) (σ : St) (v : Int32) : (MW cI cZ a σ).set 0 (a 0, .inr (7, ([.ref (a 1), .int (σ 0 1), .ref (a 2), .ref (a 3), .int (σ 0 4), .int (σ 0 5), .int (σ 0 6), .int (σ 0 7), .int (σ 0 8), .ref (a 4), .ref (a 5), .ref (a 6), .ref (a 7), .ref (a 8), .ref (a 9), .int (σ 0 15), .ref (a 10), .ref (a 11), .ref (a 12), .ref (a 13), .ref (a 14), .ref (a 15), .ref (a 16), .ref (a 17), .ref (a 18), .ref (a 19), .int (σ 0 26), .int (σ 0 27)] : List Value).set 6 (.int v))) = MW cI cZ a (st σ 0 6 v) := rfl
theorem MWs_0_7 (cI cZ : ClassId) (a : Nat → Nat) (σ : St) (v : Int32) : (MW cI cZ a σ).set 0 (a 0, .inr (7, ([.ref (a 1), .int (σ 0 1), .ref (a 2), .ref (a 3), .int (σ 0 4), .int (σ 0 5), .int (σ 0 6), .int (σ 0 7), .int (σ 0 8), .ref (a 4), .ref (a 5), .ref (a 6), .ref (a 7), .ref (a 8), .ref (a 9), .int (σ 0 15), .ref (a 10), .ref (a 11), .ref (a 12), .ref (a 13), .ref (a 14), .ref (a 15), .ref (a 16), .ref (a 17), .ref (a 18), .ref (a 19), .int (σ 0 26), .int (σ 0 27)] : List Value).set 7 (.int v))) = MW cI cZ a (st σ 0 7 v) := rfl
theorem MWs_0_8 (cI cZ : ClassId) (a : Nat → Nat) (σ : St) (v : Int32) : (MW cI cZ a σ).set 0 (a 0, .inr (7, ([.ref (a 1), .int (σ 0 1), .ref (a 2), .ref (a 3), .int (σ 0 4), .int (σ 0 5), .int (σ 0 6), .int (σ 0 7), .int (σ 0 8), .ref (a 4), .ref (a 5), .ref (a 6), .ref (a 7), .ref (a 8), .ref (a 9), .int (σ 0 15), .ref (a 10), .ref (a 11), .ref (a 12), .ref (a 13), .ref (a 14), .ref (a 15), .ref (a 16), .ref (a 17), .ref (a 18), .ref (a 19), .int (σ 0 26), .int (σ 0 27)] : List Value).set 8 (.int v))) = MW cI cZ a (st σ 0 8 v) := rfl
theorem MWs_0_15 (cI cZ : ClassId) (a : Nat → Nat) (σ : St) (v : Int32) : (MW cI cZ a σ).set 0 (a 0, .inr (7, ([.ref (a 1), .int (σ 0 1), .ref (a 2), .ref (a 3), .int (σ 0 4), .int (σ 0 5), .int (σ 0 6), .int (σ 0 7), .int (σ 0 8), .ref (a 4), .ref (a 5), .ref (a 6), .ref (a 7), .ref (a 8), .ref (a 9), .int (σ 0 15), .ref (a 10), .ref (a 11), .ref (a 12), .ref (a 13), .ref (a 14), .ref (a 15), .ref (a 16), .ref (a 17), .ref (a 18), .ref (a 19), .int (σ 0 26), .int (σ 0 27)] : List Value).set 15 (.int v))) = MW cI cZ a (st σ 0 15 v) := rfl
theorem MWs_0_26 (cI cZ : ClassId) (a : Nat → Nat) (σ : St) (v : Int32) : (MW cI cZ a σ).set 0 (a 0, .inr (7, ([.ref (a 1), .int (σ 0 1), .ref (a 2), .ref (a 3), .int (σ 0 4), .int (σ 0 5), .int (σ 0 6), .int (σ 0 7), .int (σ 0 8), .ref (a 4), .ref (a 5), .ref (a 6), .ref (a 7), .ref (a 8), .ref (a 9), .int (σ 0 15), .ref (a 10), .ref (a 11), .ref (a 12), .ref (a 13), .ref (a 14), .ref (a 15), .ref (a 16), .ref (a 17), .ref (a 18), .ref (a 19), .int (σ 0 26), .int (σ 0 27)] : List Value).set 26 (.int v))) = MW cI cZ a (st σ 0 26 v) := rfl
theorem MWs_0_27 (cI cZ : ClassId) (a : Nat → Nat) (σ : St) (v : Int32) : (MW cI cZ a σ).set 0 (a 0, .inr (7, ([.ref (a 1), .int (σ 0 1), .ref (a 2), .ref (a 3), .int (σ 0 4), .int (σ 0 5), .int (σ 0 6), .int (σ 0 7), .int (σ 0 8), .ref (a 4), .ref (a 5), .ref (a 6), .ref (a 7), .ref (a 8), .ref (a 9), .int (σ 0 15), .ref (a 10), .ref (a 11), .ref (a 12), .ref (a 13), .ref (a 14), .ref (a 15), .ref (a 16), .ref (a 17), .ref (a 18), .ref (a 19), .int (σ 0 26), .int (σ 0 27)] : List Value).set 27 (.int v))) = MW cI cZ a (st σ 0 27 v) := rfl
theorem MWa_1 (cI cZ : ClassId) (a : Nat → Nat) (σ : St) : (MW cI cZ a σ)[1]? = some (a 1, .inl (cI, 8000, .inl (σ 1))) := rfl
theorem MWs_1 (cI cZ : ClassId) (a : Nat → Nat) (σ : St) (i : Nat) (v : Int32) : (MW cI cZ a σ).set 1 (a 1, .inl (cI, 8000, .inl (upd (σ 1) i v))) = MW cI cZ a (st σ 1 i v) := rfl
theorem MWa_2 (cI cZ : ClassId) (a : Nat → Nat) (σ : St) : (MW cI cZ a σ)[2]? = some (a 2, .inl (cI, 8000, .inl (σ 2))) := rfl
theorem MWs_2 (cI cZ : ClassId) (a : Nat → Nat) (σ : St) (i : Nat) (v : Int32) : (MW cI cZ a σ).set 2 (a 2, .inl (cI, 8000, .inl (upd (σ 2) i v))) = MW cI cZ a (st σ 2 i v) := rfl
theorem MWa_3 (cI cZ : ClassId) (a : Nat → Nat) (σ : St) : (MW cI cZ a σ)[3]? = some (a 3, .inl (cZ, 8000, .inl (σ 3))) := rfl
theorem MWs_3 (cI cZ : ClassId) (a : Nat → Nat) (σ : St) (i : Nat) (v : Int32) : (MW cI cZ a σ).set 3 (a 3, .inl (cZ, 8000, .inl (upd (σ 3) i v))) = MW cI cZ a (st σ 3 i v) := rfl
theorem MWa_4 (cI cZ : ClassId) (a : Nat → Nat) (σ : St) : (MW cI cZ a σ)[4]? = some (a 4, .inl (cI, 32, .inl (σ 4))) := rfl
theorem MWs_4 (cI cZ : ClassId) (a : Nat → Nat) (σ : St) (i : Nat) (v : Int32) : (MW cI cZ a σ).set 4 (a 4, .inl (cI, 32, .inl (upd (σ 4) i v))) = MW cI cZ a (st σ 4 i v) := rfl
theorem MWa_5 (cI cZ : ClassId) (a : Nat → Nat) (σ : St) : (MW cI cZ a σ)[5]? = some (a 5, .inl (cI, 32, .inl (σ 5))) := rfl
theorem MWs_5 (cI cZ : ClassId) (a : Nat → Nat) (σ : St) (i : Nat) (v : Int32) : (MW cI cZ a σ).set 5 (a 5, .inl (cI, 32, .inl (upd (σ 5) i v))) = MW cI cZ a (st σ 5 i v) := rfl
theorem MWa_6 (cI cZ : ClassId) (a : Nat → Nat) (σ : St) : (MW cI cZ a σ)[6]? = some (a 6, .inl (cI, 480, .inl (σ 6))) := rfl
theorem MWs_6 (cI cZ : ClassId) (a : Nat → Nat) (σ : St) (i : Nat) (v : Int32) : (MW cI cZ a σ).set 6 (a 6, .inl (cI, 480, .inl (upd (σ 6) i v))) = MW cI cZ a (st σ 6 i v) := rfl
theorem MWa_7 (cI cZ : ClassId) (a : Nat → Nat) (σ : St) : (MW cI cZ a σ)[7]? = some (a 7, .inl (cI, 512, .inl (σ 7))) := rfl
theorem MWs_7 (cI cZ : ClassId) (a : Nat → Nat) (σ : St) (i : Nat) (v : Int32) : (MW cI cZ a σ).set 7 (a 7, .inl (cI, 512, .inl (upd (σ 7) i v))) = MW cI cZ a (st σ 7 i v) := rfl
theorem MWa_8 (cI cZ : ClassId) (a : Nat → Nat) (σ : St) : (MW cI cZ a σ)[8]? = some (a 8, .inl (cI, 512, .inl (σ 8))) := rfl
theorem MWs_8 (cI cZ : ClassId) (a : Nat → Nat) (σ : St) (i : Nat) (v : Int32) : (MW cI cZ a σ).set 8 (a 8, .inl (cI, 512, .inl (upd (σ 8) i v))) = MW cI cZ a (st σ 8 i v) := rfl
theorem MWa_9 (cI cZ : ClassId) (a : Nat → Nat) (σ : St) : (MW cI cZ a σ)[9]? = some (a 9, .inl (cI, 5, .inl (σ 9))) := rfl
theorem MWs_9 (cI cZ : ClassId) (a : Nat → Nat) (σ : St) (i : Nat) (v : Int32) : (MW cI cZ a σ).set 9 (a 9, .inl (cI, 5, .inl (upd (σ 9) i v))) = MW cI cZ a (st σ 9 i v) := rfl
theorem MWa_10 (cI cZ : ClassId) (a : Nat → Nat) (σ : St) : (MW cI cZ a σ)[10]? = some (a 10, .inl (cI, 64, .inl (σ 10))) := rfl
theorem MWs_10 (cI cZ : ClassId) (a : Nat → Nat) (σ : St) (i : Nat) (v : Int32) : (MW cI cZ a σ).set 10 (a 10, .inl (cI, 64, .inl (upd (σ 10) i v))) = MW cI cZ a (st σ 10 i v) := rfl
theorem MWa_11 (cI cZ : ClassId) (a : Nat → Nat) (σ : St) : (MW cI cZ a σ)[11]? = some (a 11, .inl (cI, 64, .inl (σ 11))) := rfl
theorem MWs_11 (cI cZ : ClassId) (a : Nat → Nat) (σ : St) (i : Nat) (v : Int32) : (MW cI cZ a σ).set 11 (a 11, .inl (cI, 64, .inl (upd (σ 11) i v))) = MW cI cZ a (st σ 11 i v) := rfl
theorem MWa_12 (cI cZ : ClassId) (a : Nat → Nat) (σ : St) : (MW cI cZ a σ)[12]? = some (a 12, .inl (cI, 512, .inl (σ 12))) := rfl
theorem MWs_12 (cI cZ : ClassId) (a : Nat → Nat) (σ : St) (i : Nat) (v : Int32) : (MW cI cZ a σ).set 12 (a 12, .inl (cI, 512, .inl (upd (σ 12) i v))) = MW cI cZ a (st σ 12 i v) := rfl
theorem MWa_13 (cI cZ : ClassId) (a : Nat → Nat) (σ : St) : (MW cI cZ a σ)[13]? = some (a 13, .inl (cI, 64, .inl (σ 13))) := rfl
theorem MWs_13 (cI cZ : ClassId) (a : Nat → Nat) (σ : St) (i : Nat) (v : Int32) : (MW cI cZ a σ).set 13 (a 13, .inl (cI, 64, .inl (upd (σ 13) i v))) = MW cI cZ a (st σ 13 i v) := rfl
theorem MWa_14 (cI cZ : ClassId) (a : Nat → Nat) (σ : St) : (MW cI cZ a σ)[14]? = some (a 14, .inl (cI, 64, .inl (σ 14))) := rfl
theorem MWs_14 (cI cZ : ClassId) (a : Nat → Nat) (σ : St) (i : Nat) (v : Int32) : (MW cI cZ a σ).set 14 (a 14, .inl (cI, 64, .inl (upd (σ 14) i v))) = MW cI cZ a (st σ 14 i v) := rfl
theorem MWa_15 (cI cZ : ClassId) (a : Nat → Nat) (σ : St) : (MW cI cZ a σ)[15]? = some (a 15, .inl (cI, 64, .inl (σ 15))) := rfl
theorem MWs_15 (cI cZ : ClassId) (a : Nat → Nat) (σ : St) (i : Nat) (v : Int32) : (MW cI cZ a σ).set 15 (a 15, .inl (cI, 64, .inl (upd (σ 15) i v))) = MW cI cZ a (st σ 15 i v) := rfl
theorem MWa_16 (cI cZ : ClassId) (a : Nat → Nat) (σ : St) : (MW cI cZ a σ)[16]? = some (a 16, .inl (cI, 64, .inl (σ 16))) := rfl
theorem MWs_16 (cI cZ : ClassId) (a : Nat → Nat) (σ : St) (i : Nat) (v : Int32) : (MW cI cZ a σ).set 16 (a 16, .inl (cI, 64, .inl (upd (σ 16) i v))) = MW cI cZ a (st σ 16 i v) := rfl
theorem MWa_17 (cI cZ : ClassId) (a : Nat → Nat) (σ : St) : (MW cI cZ a σ)[17]? = some (a 17, .inl (cI, 64, .inl (σ 17))) := rfl
theorem MWs_17 (cI cZ : ClassId) (a : Nat → Nat) (σ : St) (i : Nat) (v : Int32) : (MW cI cZ a σ).set 17 (a 17, .inl (cI, 64, .inl (upd (σ 17) i v))) = MW cI cZ a (st σ 17 i v) := rfl
theorem MWa_18 (cI cZ : ClassId) (a : Nat → Nat) (σ : St) : (MW cI cZ a σ)[18]? = some (a 18, .inl (cI, 64, .inl (σ 18))) := rfl
theorem MWs_18 (cI cZ : ClassId) (a : Nat → Nat) (σ : St) (i : Nat) (v : Int32) : (MW cI cZ a σ).set 18 (a 18, .inl (cI, 64, .inl (upd (σ 18) i v))) = MW cI cZ a (st σ 18 i v) := rfl
theorem MWa_19 (cI cZ : ClassId) (a : Nat → Nat) (σ : St) : (MW cI cZ a σ)[19]? = some (a 19, .inl (cI, 64, .inl (σ 19))) := rfl
theorem MWs_19 (cI cZ : ClassId) (a : Nat → Nat) (σ : St) (i : Nat) (v : Int32) : (MW cI cZ a σ).set 19 (a 19, .inl (cI, 64, .inl (upd (σ 19) i v))) = MW cI cZ a (st σ 19 i v) := rfl
def XV (cI cZ : ClassId) (a : Nat → Nat) (tw sw : Nat) (σ : St) : va_W := [(a 0, .inr (6, [.ref (a 1), .ref (a 2), .ref (a 3), .ref (a 4)])),
  (a 1, .inr (5, [.ref tw, .int (σ 1 1)])),
  (a 2, .inr (4, [.ref sw, .int (σ 2 1), .int (σ 2 2), .int (σ 2 3)])),
  (a 3, .inr (0, [.int (σ 3 0), .ref (a 9), .ref (a 10), .ref (a 11), .ref (a 12), .ref (a 13), .ref (a 14)])),
  (a 4, .inr (3, [.int (σ 4 0), .int (σ 4 1), .ref (a 15), .ref (a 16), .ref (a 17), .ref (a 18), .ref (a 19), .ref (a 20), .ref (a 5), .ref (a 6)])),
  (a 5, .inr (1, [.int (σ 5 0), .ref (a 21), .ref (a 22), .ref (a 23), .ref (a 24)])),
  (a 6, .inr (2, [.ref (a 25), .ref (a 26)])),
  (a 7, .inl (cI, 2000, .inl (σ 7))),
  (a 8, .inl (cI, 2000, .inl (σ 8))),
  (a 9, .inl (cI, 32, .inl (σ 9))),
  (a 10, .inl (cI, 32, .inl (σ 10))),
  (a 11, .inl (cI, 480, .inl (σ 11))),
  (a 12, .inl (cI, 512, .inl (σ 12))),
  (a 13, .inl (cI, 512, .inl (σ 13))),
  (a 14, .inl (cI, 5, .inl (σ 14))),
  (a 15, .inl (cI, 64, .inl (σ 15))),
  (a 16, .inl (cI, 64, .inl (σ 16))),
  (a 17, .inl (cI, 512, .inl (σ 17))),
  (a 18, .inl (cI, 64, .inl (σ 18))),
  (a 19, .inl (cI, 64, .inl (σ 19))),
  (a 20, .inl (cI, 64, .inl (σ 20))),
  (a 21, .inl (cI, 64, .inl (σ 21))),
  (a 22, .inl (cI, 64, .inl (σ 22))),
  (a 23, .inl (cI, 64, .inl (σ 23))),
  (a 24, .inl (cI, 250, .inl (σ 24))),
  (a 25, .inl (cI, 64, .inl (σ 25))),
  (a 26, .inl (cI, 64, .inl (σ 26)))]

theorem XV_eq (cI cZ : ClassId) (a : Nat → Nat) (σ : St) : XV cI cZ a (a 7) (a 8) σ = XW cI cZ a σ := rfl
/-- the two rows of words change places -/
def swp (a : Nat → Nat) : Nat → Nat := fun k => if k = 7 then a 8 else if k = 8 then a 7 else a k
def asw (r : Int32) (a : Nat → Nat) : Nat → Nat := if r = 0 then a else swp a
def ssw (σ : St) : St := fun k => if k = 7 then σ 8 else if k = 8 then σ 7 else σ k
theorem asw_ne {r : Int32} {a : Nat → Nat} {k : Nat} (h7 : k ≠ 7) (h8 : k ≠ 8) : asw r a k = a k := by
  unfold asw
  split
  · rfl
  · unfold swp; rw [if_neg h7, if_neg h8]
theorem asw_0 (a : Nat → Nat) : asw 0 a = a := if_pos rfl
theorem asw_1 (a : Nat → Nat) : asw 1 a = swp a := if_neg (by decide)
end
section
def F_X6_add (x1 : Int32) (x2 : Int32) (x3 : Int32) (x4 : Int32) (x5 : Int32) (u0 : St) : Option (Int32 × St) := if (u0 1 1) < 0 then (some (0, u0)) else (if (u0 1 1) ≤ (2000 - 5) then (ix 2000 (u0 1 1) (nm (st u0 7 ((u0 1 1)).toNatClampNeg x1) fun u4 => (ix 2000 ((u4 1 1) + 1) (nm (st u4 7 (((u4 1 1) + 1)).toNatClampNeg x2) fun u6 => (ix 2000 ((u6 1 1) + 2) (nm (st u6 7 (((u6 1 1) + 2)).toNatClampNeg x3) fun u8 => (ix 2000 ((u8 1 1) + 3) (nm (st u8 7 (((u8 1 1) + 3)).toNatClampNeg x4) fun u10 => (ix 2000 ((u10 1 1) + 4) (nm (st u10 7 (((u10 1 1) + 4)).toNatClampNeg x5) fun u12 => (nm (st u12 1 1 ((u12 1 1) + 5)) fun u13 => (some (1, u13))))))))))))) else (some (0, u0)))
def F_X6_length (u0 : St) : Option Int32 := some ((u0 1 1) * 4)
def F_X7_feed (x1 : Int32) (x2 : Int32) (x3 : Int32) (x4 : Int32) (x5 : Int32) (u0 : St) : Option (Int32 × St) := b2 (F_X6_add x1 x2 x3 x4 x5 u0) fun r2 u3 => (if r2 = 0 then (some ((-2), u3)) else (b1 (F_X6_length u3) fun r6 => (some (r6, u3))))
def F_X6_clear (u0 : St) : Option St := nm (st u0 1 1 0) fun u1 => (some u1)
def F_X5_byteAt (x1 : Int32) (u0 : St) : Option Int32 := nm ((x1 >>> (2 &&& 31))) fun v1 => (if x1 < 0 then (some (-1)) else (if (u0 2 1) ≤ x1 then (some (-1)) else (if v1 < 2000 then (ix 2000 v1 (some ((ushr (u0 8 (v1).toNatClampNeg) (24 - (8 * (x1 &&& 3)))) &&& 255))) else (some (-1)))))
def F_X5_number_31 (u0 : St) : Option (Int32 × St) := nm (st u0 2 3 1) fun u1 => (some ((-1), u1))
def F_X5_number (x1 : Int32) (x2 : Int32) (u0 : St) : Option (Int32 × St) := b1 (F_X5_byteAt (u0 2 2) u0) fun r2 => (if (u0 2 3) = 0 then (if r2 = (-1) then (F_X5_number_31 u0) else (if r2 < x1 then (F_X5_number_31 u0) else (if r2 ≤ x2 then (nm (st u0 2 2 ((u0 2 2) + 1)) fun u7 => (some (r2, u7))) else (F_X5_number_31 u0)))) else (F_X5_number_31 u0))
def F_X5_stopped (u0 : St) : Option Int32 := bo (u0 2 3) (some (u0 2 3))
def F_X5_next (u0 : St) : Option Int32 := b1 (F_X5_byteAt (u0 2 2) u0) fun r2 => (some r2)
def F_X5_numberOrNothing (x1 : Int32) (u0 : St) : Option (Int32 × St) := b1 (F_X5_next u0) fun r2 => (if r2 = 255 then (b2 (F_X5_number 255 255 u0) fun r8 u9 => (some (r8, u9))) else (b2 (F_X5_number 0 x1 u0) fun r5 u6 => (some (r5, u6))))
def F_X0_has (x1 : Int32) (u0 : St) : Option Int32 := if x1 < 0 then (some 0) else (if (u0 3 0) ≤ x1 then (some 0) else (if 32 ≤ x1 then (some 0) else (some 1)))
def F_X0_fields (x1 : Int32) (u0 : St) : Option Int32 := b1 (F_X0_has x1 u0) fun r2 => (if r2 = 0 then (some (-1)) else (ix 32 x1 (some (u0 10 (x1).toNatClampNeg))))
def F_X0_fieldType (x1 : Int32) (x2 : Int32) (u0 : St) : Option Int32 := if x2 < 0 then (some (-1)) else (b1 (F_X0_fields x1 u0) fun r3 => (if r3 ≤ x2 then (some (-1)) else (ix 480 ((x1 * 15) + x2) (some (u0 11 (((x1 * 15) + x2)).toNatClampNeg)))))
def F_X0_slotMethod (x1 : Int32) (x2 : Int32) (u0 : St) : Option Int32 := b1 (F_X0_has x1 u0) fun r2 => (if r2 = 0 then (some (-1)) else (if x2 < 0 then (some (-1)) else (if 16 ≤ x2 then (some (-1)) else (ix 512 ((x1 * 16) + x2) (some (u0 12 (((x1 * 16) + x2)).toNatClampNeg))))))
def F_X0_inherit_61 : Nat → Int32 → Int32 → Int32 → St → Option St
  | 0, _, _, _, _ => none
  | n + 1, x1, x2, x4, u0 => if 16 ≤ x4 then (some u0) else (b1 (F_X0_slotMethod x2 x4 u0) fun r3 => (ix 512 ((x1 * 16) + x4) (nm (st u0 12 (((x1 * 16) + x4)).toNatClampNeg r3) fun u5 => (ix 512 ((x1 * 16) + x4) (nm (st u5 13 (((x1 * 16) + x4)).toNatClampNeg (-1)) fun u7 => (nm (x4 + 1) fun v8 => (F_X0_inherit_61 n x1 x2 v8 u7)))))))
def F_X0_inherit_27 : Nat → Int32 → Int32 → Int32 → Int32 → St → Option St
  | 0, _, _, _, _, _ => none
  | n + 1, x1, x2, x3, x4, u0 => if x3 ≤ x4 then (F_X0_inherit_61 fu x1 x2 0 u0) else (b1 (F_X0_fieldType x2 x4 u0) fun r3 => (ix 480 ((x1 * 15) + x4) (nm (st u0 11 (((x1 * 15) + x4)).toNatClampNeg r3) fun u5 => (nm (x4 + 1) fun v6 => (F_X0_inherit_27 n x1 x2 x3 v6 u5)))))
def F_X0_inherit (x1 : Int32) (u0 : St) : Option St := ix 32 x1 (nm ((u0 9 (x1).toNatClampNeg)) fun v2 => (b1 (F_X0_fields v2 u0) fun r4 => (nm ((if r4 < 0 then 0 else r4)) fun v5 => (ix 32 x1 (nm (st u0 10 (x1).toNatClampNeg v5) fun u7 => (F_X0_inherit_27 fu x1 v2 v5 0 u7))))))
def F_X5_type (x1 : Int32) (u0 : St) : Option (Int32 × St) := b1 (F_X5_next u0) fun r2 => (if 64 ≤ r2 then (b2 (F_X5_number 64 (64 + x1) u0) fun r5 u6 => (some (r5, u6))) else (b2 (F_X5_number 0 x1 u0) fun r8 u9 => (some (r8, u9))))
def F_X0_readFields_63 (x2 : Int32) (x3 : Int32) (x4 : Int32) (u0 : St) : Option St := ix 32 x2 (nm (st u0 10 (x2).toNatClampNeg (x3 + (if x4 < 0 then 0 else x4))) fun u2 => (some u2))
def F_X0_readFields_21 : Nat → Int32 → Int32 → Int32 → Int32 → St → Option St
  | 0, _, _, _, _, _ => none
  | n + 1, x2, x3, x4, x5, u0 => if x4 ≤ x5 then (F_X0_readFields_63 x2 x3 x4 u0) else (b1 (F_X5_stopped u0) fun r3 => (if r3 = 0 then (b2 (F_X5_type (u0 3 0) u0) fun r6 u7 => (ix 480 (((x2 * 15) + x3) + x5) (nm (st u7 11 ((((x2 * 15) + x3) + x5)).toNatClampNeg r6) fun u9 => (nm (x5 + 1) fun v10 => (F_X0_readFields_21 n x2 x3 x4 v10 u9))))) else (F_X0_readFields_63 x2 x3 x4 u0)))
def F_X0_readFields (x2 : Int32) (u0 : St) : Option St := ix 32 x2 (nm ((u0 10 (x2).toNatClampNeg)) fun v2 => (b2 (F_X5_number 0 (15 - v2) u0) fun r4 u5 => (F_X0_readFields_21 fu x2 v2 r4 0 u5)))
def F_X5_place (u0 : St) : Option Int32 := some (u0 2 2)
def F_X0_readSlots_14 : Nat → Int32 → Int32 → Int32 → Int32 → St → Option St
  | 0, _, _, _, _, _ => none
  | n + 1, x2, x3, x4, x5, u0 => if x3 ≤ x5 then (some u0) else (b2 (F_X5_number x4 15 u0) fun r3 u4 => (b1 (F_X5_place u4) fun r6 => (b2 (F_X5_number 0 255 u4) fun r8 u9 => (b1 (F_X5_stopped u9) fun r11 => (if r11 = 0 then (ix 512 ((x2 * 16) + r3) (nm (st u9 12 (((x2 * 16) + r3)).toNatClampNeg r8) fun u14 => (ix 512 ((x2 * 16) + r3) (nm (st u14 13 (((x2 * 16) + r3)).toNatClampNeg r6) fun u16 => (nm ((r3 + 1)) fun v17 => (nm (x5 + 1) fun v18 => (F_X0_readSlots_14 n x2 x3 v17 v18 u16))))))) else (some u9))))))
def F_X0_readSlots (x2 : Int32) (u0 : St) : Option St := b2 (F_X5_number 0 16 u0) fun r2 u3 => (F_X0_readSlots_14 fu x2 r2 0 0 u3)
def F_X0_readClass_25 (x2 : Int32) (t0 : Int32) (t1 : Int32) (u0 : St) : Option St := ix 32 t1 (nm (st u0 9 (t1).toNatClampNeg t0) fun u2 => (b1 (F_X0_inherit x2 u2) fun u4 => (b1 (F_X0_readFields x2 u4) fun u6 => (b1 (F_X0_readSlots x2 u6) fun u8 => (some u8)))))
def F_X0_readClass (x2 : Int32) (u0 : St) : Option St := b2 (F_X5_numberOrNothing (x2 - 1) u0) fun r2 u3 => (if r2 = 255 then (F_X0_readClass_25 x2 (-1) x2 u3) else (F_X0_readClass_25 x2 r2 x2 u3))
def F_X0_read_46 : Nat → Int32 → St → Option St
  | 0, _, _ => none
  | n + 1, x2, u0 => if 5 ≤ x2 then (some u0) else (b2 (F_X5_number 0 ((u0 3 0) - 1) u0) fun r3 u4 => (ix 5 x2 (nm (st u4 14 (x2).toNatClampNeg r3) fun u6 => (nm (x2 + 1) fun v7 => (F_X0_read_46 n v7 u6)))))
def F_X0_read_44 (u0 : St) : Option St := F_X0_read_46 fu 0 u0
def F_X0_read_17 : Nat → Int32 → St → Option St
  | 0, _, _ => none
  | n + 1, x2, u0 => if (u0 3 0) ≤ x2 then (F_X0_read_44 u0) else (b1 (F_X5_stopped u0) fun r3 => (if r3 = 0 then (b1 (F_X0_readClass x2 u0) fun u6 => (nm (x2 + 1) fun v7 => (F_X0_read_17 n v7 u6))) else (F_X0_read_44 u0)))
def F_X0_read (u0 : St) : Option St := b2 (F_X5_number 1 32 u0) fun r2 u3 => (nm (st u3 3 0 (if r2 < 0 then 0 else r2)) fun u4 => (F_X0_read_17 fu 0 u4))
def F_J7_fill_53178_5 : Nat → Int32 → Int32 → Int32 → St → Option St
  | 0, _, _, _, _ => none
  | n + 1, x1, x2, x3, u0 => if x3 ≤ x2 then (some u0) else (ix 250 x2 (nm (st u0 24 (x2).toNatClampNeg x1) fun u3 => (nm (x2 + 1) fun v4 => (F_J7_fill_53178_5 n x1 v4 x3 u3))))
def F_J7_fill_53178 (x1 : Int32) (u0 : St) : Option St := F_J7_fill_53178_5 fu x1 0 250 u0
def F_X1_clear (u0 : St) : Option St := nm (st u0 5 0 0) fun u1 => (b1 (F_J7_fill_53178 0 u1) fun u3 => (some u3))
def F_X3_clear (u0 : St) : Option St := nm (st u0 4 0 0) fun u1 => (nm (st u1 4 1 (-1)) fun u2 => (b1 (F_X1_clear u2) fun u4 => (some u4)))
def F_X0_size (u0 : St) : Option Int32 := some (u0 3 0)
def F_X3_readParameters_56 : Nat → Int32 → Int32 → Int32 → Int32 → Int32 → St → Option St
  | 0, _, _, _, _, _, _ => none
  | n + 1, x2, x3, x4, x5, x6, u0 => if x5 ≤ x6 then (ix 64 x3 (nm (st u0 16 (x3).toNatClampNeg (x4 + x5)) fun u3 => (some u3))) else (b2 (F_X5_type x2 u0) fun r5 u6 => (ix 512 (((x3 * 8) + x4) + x6) (nm (st u6 17 ((((x3 * 8) + x4) + x6)).toNatClampNeg r5) fun u8 => (nm (x6 + 1) fun v9 => (F_X3_readParameters_56 n x2 x3 x4 x5 v9 u8)))))
def F_X3_readParameters_40 (x2 : Int32) (x3 : Int32) (x4 : Int32) (u0 : St) : Option St := b2 (F_X5_number 0 7 u0) fun r2 u3 => (nm ((if r2 < 0 then 0 else r2)) fun v4 => (F_X3_readParameters_56 fu x2 x3 x4 v4 0 u3))
def F_X3_readParameters_15 (x2 : Int32) (x3 : Int32) (t0 : Int32) (u0 : St) : Option St := if t0 = 1 then (ix 64 x3 (ix 512 (x3 * 8) (nm (st u0 17 ((x3 * 8)).toNatClampNeg ((u0 15 (x3).toNatClampNeg) + 1)) fun u4 => (F_X3_readParameters_40 x2 x3 t0 u4)))) else (F_X3_readParameters_40 x2 x3 t0 u0)
def F_X3_readParameters (x2 : Int32) (x3 : Int32) (u0 : St) : Option St := ix 64 x3 (if (u0 15 (x3).toNatClampNeg) = (-1) then (F_X3_readParameters_15 x2 x3 0 u0) else (F_X3_readParameters_15 x2 x3 1 u0))
def F_X5_typeOrNothing (x1 : Int32) (u0 : St) : Option (Int32 × St) := b1 (F_X5_next u0) fun r2 => (if r2 = 255 then (b2 (F_X5_number 255 255 u0) fun r8 u9 => (some (r8, u9))) else (b2 (F_X5_type x1 u0) fun r5 u6 => (some (r5, u6))))
def F_X3_readHead_62 (x3 : Int32) (t0 : Int32) (t1 : Int32) (u0 : St) : Option St := ix 64 t1 (nm (st u0 18 (t1).toNatClampNeg t0) fun u2 => (ix 64 x3 (b2 (F_X5_number (u2 16 (x3).toNatClampNeg) 12 u2) fun r5 u6 => (ix 64 x3 (nm (st u6 19 (x3).toNatClampNeg r5) fun u8 => (ix 64 x3 (b2 (F_X5_number 0 (12 - (u8 19 (x3).toNatClampNeg)) u8) fun r11 u12 => (ix 64 x3 (nm (st u12 20 (x3).toNatClampNeg r11) fun u14 => (some u14))))))))))
def F_X3_readHead_28 (x2 : Int32) (x3 : Int32) (t0 : Int32) (t1 : Int32) (u0 : St) : Option St := ix 64 t1 (nm (st u0 15 (t1).toNatClampNeg t0) fun u2 => (b1 (F_X3_readParameters x2 x3 u2) fun u4 => (b2 (F_X5_typeOrNothing x2 u4) fun r6 u7 => (if r6 = 255 then (F_X3_readHead_62 x3 (-1) x3 u7) else (F_X3_readHead_62 x3 r6 x3 u7)))))
def F_X3_readHead (x2 : Int32) (x3 : Int32) (u0 : St) : Option St := b2 (F_X5_numberOrNothing (x2 - 1) u0) fun r2 u3 => (if r2 = 255 then (F_X3_readHead_28 x2 x3 (-1) x3 u3) else (F_X3_readHead_28 x2 x3 r2 x3 u3))
def F_X5_pair_50 (x3 : Int32) (t0 : Int32) (t1 : Int32) (u0 : St) : Option (Int32 × St) := b2 (F_X5_number t1 t0 u0) fun r2 u3 => (if (u3 2 3) = 0 then (some (((x3 <<< (8 &&& 31)) ||| r2), u3)) else (some ((-1), u3)))
def F_X5_pair_31 (x2 : Int32) (x3 : Int32) (t0 : Int32) (u0 : St) : Option (Int32 × St) := if x3 = (x2 >>> (8 &&& 31)) then (F_X5_pair_50 x3 (x2 &&& 255) t0 u0) else (F_X5_pair_50 x3 255 t0 u0)
def F_X5_pair (x1 : Int32) (x2 : Int32) (u0 : St) : Option (Int32 × St) := b2 (F_X5_number (x1 >>> (8 &&& 31)) (x2 >>> (8 &&& 31)) u0) fun r2 u3 => (if r2 = (x1 >>> (8 &&& 31)) then (F_X5_pair_31 x2 r2 (x1 &&& 255) u3) else (F_X5_pair_31 x2 r2 0 u3))
def F_X4_first (x0 : Int32) (u0 : St) : Option Int32 := if x0 < 0 then (some 0) else (if (Int32.ofNat 42) ≤ x0 then (some 0) else (ix 42 x0 (some (tF (x0).toNatClampNeg))))
def F_X4_width (x0 : Int32) (u0 : St) : Option Int32 := if x0 < 0 then (some 0) else (if (Int32.ofNat 10) ≤ x0 then (some 0) else (ix 10 x0 (some (tW (x0).toNatClampNeg))))
def F_X4_second (x0 : Int32) (u0 : St) : Option Int32 := if x0 < 0 then (some 0) else (if (Int32.ofNat 42) ≤ x0 then (some 0) else (ix 42 x0 (some (tS (x0).toNatClampNeg))))
def F_X4_length (x0 : Int32) (u0 : St) : Option Int32 := b1 (F_X4_first x0 u0) fun r2 => (b1 (F_X4_width r2 u0) fun r4 => (b1 (F_X4_second x0 u0) fun r6 => (b1 (F_X4_width r6 u0) fun r8 => (some ((1 + r4) + r8)))))
def F_X5_stopAt (x1 : Int32) (u0 : St) : Option St := nm (st u0 2 2 x1) fun u1 => (nm (st u1 2 3 1) fun u2 => (some u2))
def F_X1_markBegin (x1 : Int32) (u0 : St) : Option St := nm ((x1 >>> (5 &&& 31))) fun v1 => (if v1 < 0 then (some u0) else (if 250 ≤ v1 then (some u0) else (ix 250 v1 (ix 250 v1 (nm (st u0 24 (v1).toNatClampNeg ((u0 24 (v1).toNatClampNeg) ||| (1 <<< ((x1 &&& 31) &&& 31)))) fun u6 => (some u6))))))
def F_X5_skip (x1 : Int32) (u0 : St) : Option St := if (u0 2 3) = 0 then (if x1 ≤ ((u0 2 1) - (u0 2 2)) then (nm (st u0 2 2 ((u0 2 2) + x1)) fun u3 => (some u3)) else (b1 (F_X5_stopAt (u0 2 1) u0) fun u5 => (some u5))) else (some u0)
def F_X1_readOperand (x2 : Int32) (x3 : Int32) (u0 : St) : Option (Int32 × St) := if x2 = 2 then (b2 (F_X5_number 0 (x3 - 1) u0) fun r3 u4 => (some (r3, u4))) else (if x2 = 3 then (b2 (F_X5_number 0 5 u0) fun r7 u8 => (some (r7, u8))) else (if x2 = 4 then (b1 (F_X4_width x2 u0) fun r11 => (b1 (F_X5_skip r11 u0) fun u13 => (some ((-1), u13)))) else (if x2 = 5 then (b1 (F_X0_size u0) fun r16 => (b2 (F_X5_number 0 (r16 - 1) u0) fun r18 u19 => (some (r18, u19)))) else (if x2 = 6 then (b1 (F_X4_width x2 u0) fun r22 => (b1 (F_X5_skip r22 u0) fun u24 => (some ((-1), u24)))) else (if x2 = 7 then (b1 (F_X0_size u0) fun r27 => (b2 (F_X5_number 0 r27 u0) fun r29 u30 => (some (r29, u30)))) else (b1 (F_X4_width x2 u0) fun r32 => (b1 (F_X5_skip r32 u0) fun u34 => (some ((-1), u34)))))))))
def F_X1_readSlot (x2 : Int32) (u0 : St) : Option St := b1 (F_X5_next u0) fun r2 => (b1 (F_X0_slotMethod x2 r2 u0) fun r4 => (if r4 = (-1) then (b1 (F_X5_place u0) fun r10 => (b1 (F_X5_stopAt r10 u0) fun u12 => (some u12))) else (b2 (F_X5_number r2 r2 u0) fun r7 u8 => (some u8))))
def F_X1_readInstruction (x3 : Int32) (x4 : Int32) (u0 : St) : Option St := b1 (F_X5_place u0) fun r2 => (b2 (F_X5_number 0 41 u0) fun r4 u5 => (b1 (F_X5_stopped u5) fun r7 => (if r7 = 0 then (b1 (F_X4_length r4 u5) fun r10 => (if r10 ≤ (x4 - r2) then (b1 (F_X1_markBegin r2 u5) fun u13 => (b1 (F_X4_first r4 u13) fun r15 => (b2 (F_X1_readOperand r15 x3 u13) fun r17 u18 => (b1 (F_X4_second r4 u18) fun r20 => (if r20 = 6 then (b1 (F_X0_fields r17 u18) fun r29 => (b2 (F_X5_number 0 (r29 - 1) u18) fun r31 u32 => (some u32))) else (if r20 = 9 then (b1 (F_X1_readSlot r17 u18) fun u27 => (some u27)) else (b2 (F_X1_readOperand r20 x3 u18) fun r24 u25 => (some u25)))))))) else (b1 (F_X5_stopAt r2 u5) fun u34 => (some u34)))) else (some u5))))
def F_X1_read_74 (x3 : Int32) (x5 : Int32) (x6 : Int32) (x7 : Int32) (u0 : St) : Option St := ix 64 x3 (nm (st u0 21 (x3).toNatClampNeg x6) fun u2 => (ix 64 x3 (nm (st u2 22 (x3).toNatClampNeg x5) fun u4 => (ix 64 x3 (nm (st u4 23 (x3).toNatClampNeg x7) fun u6 => (nm (st u6 5 0 ((u6 5 0) + x7)) fun u7 => (some u7)))))))
def F_X1_read_26 : Nat → Int32 → Int32 → Int32 → Int32 → Int32 → Int32 → St → Option St
  | 0, _, _, _, _, _, _, _ => none
  | n + 1, x3, x4, x5, x6, x7, x8, u0 => if x5 ≤ x8 then (F_X1_read_74 x3 x5 x6 x7 u0) else (b1 (F_X5_place u0) fun r3 => (if (x6 + x5) ≤ r3 then (F_X1_read_74 x3 x5 x6 x7 u0) else (b1 (F_X5_stopped u0) fun r6 => (if r6 = 0 then (b1 (F_X1_readInstruction x4 (x6 + x5) u0) fun u9 => (nm (x7 + 1) fun v10 => (nm (x8 + 1) fun v11 => (F_X1_read_26 n x3 x4 x5 x6 v10 v11 u9)))) else (F_X1_read_74 x3 x5 x6 x7 u0)))))
def F_X1_read (x3 : Int32) (x4 : Int32) (u0 : St) : Option St := b2 (F_X5_pair 1 1000 u0) fun r2 u3 => (nm ((if r2 < 0 then 0 else r2)) fun v4 => (b1 (F_X5_place u3) fun r6 => (F_X1_read_26 fu x3 x4 v4 r6 0 0 u3)))
def F_X2_read_34 : Nat → Int32 → Int32 → Int32 → St → Option St
  | 0, _, _, _, _ => none
  | n + 1, x2, x4, x5, u0 => if x4 ≤ x5 then (some u0) else (b1 (F_X5_skip 4 u0) fun u3 => (b2 (F_X5_number 0 (x2 - 1) u3) fun r5 u6 => (b1 (F_X5_skip 2 u6) fun u8 => (nm (x5 + 1) fun v9 => (F_X2_read_34 n x2 x4 v9 u8)))))
def F_X2_read (x2 : Int32) (x3 : Int32) (u0 : St) : Option St := b2 (F_X5_number 0 8 u0) fun r2 u3 => (nm ((if r2 < 0 then 0 else r2)) fun v4 => (b1 (F_X5_place u3) fun r6 => (ix 64 x3 (nm (st u3 25 (x3).toNatClampNeg r6) fun u8 => (ix 64 x3 (nm (st u8 26 (x3).toNatClampNeg v4) fun u10 => (F_X2_read_34 fu x2 v4 0 u10)))))))
def F_X3_has (x1 : Int32) (u0 : St) : Option Int32 := if x1 < 0 then (some 0) else (if (u0 4 0) ≤ x1 then (some 0) else (if 64 ≤ x1 then (some 0) else (some 1)))
def F_X3_readFirst_40 (u0 : St) : Option St := b1 (F_X5_place u0) fun r2 => (b1 (F_X5_stopAt r2 u0) fun u4 => (some u4))
def F_X3_readFirst (u0 : St) : Option St := b1 (F_X5_next u0) fun r2 => (b1 (F_X5_stopped u0) fun r4 => (if r4 = 0 then (b1 (F_X3_has r2 u0) fun r7 => (if r7 = 0 then (F_X3_readFirst_40 u0) else (ix 64 r2 (if (u0 15 (r2).toNatClampNeg) = (-1) then (ix 64 r2 (if (u0 16 (r2).toNatClampNeg) = 0 then (b2 (F_X5_number r2 r2 u0) fun r14 u15 => (nm (st u15 4 1 r14) fun u16 => (some u16))) else (F_X3_readFirst_40 u0))) else (F_X3_readFirst_40 u0))))) else (some u0)))
def F_X3_read_81 (u0 : St) : Option St := b1 (F_X3_readFirst u0) fun u2 => (some u2)
def F_X3_read_21 : Nat → Int32 → St → Option St
  | 0, _, _ => none
  | n + 1, x3, u0 => if (u0 4 0) ≤ x3 then (F_X3_read_81 u0) else (b1 (F_X5_stopped u0) fun r3 => (if r3 = 0 then (b1 (F_X0_size u0) fun r6 => (b1 (F_X3_readHead r6 x3 u0) fun u8 => (ix 64 x3 (b1 (F_X1_read x3 (u8 19 (x3).toNatClampNeg) u8) fun u11 => (b1 (F_X0_size u11) fun r13 => (b1 (F_X2_read r13 x3 u11) fun u15 => (nm (x3 + 1) fun v16 => (F_X3_read_21 n v16 u15)))))))) else (F_X3_read_81 u0)))
def F_X3_read (u0 : St) : Option St := b1 (F_X3_clear u0) fun u2 => (b2 (F_X5_number 1 64 u2) fun r4 u5 => (nm (st u5 4 0 (if r4 < 0 then 0 else r4)) fun u6 => (F_X3_read_21 fu 0 u6)))
def F_X5_close (u0 : St) : Option St := if (u0 2 1) ≤ (u0 2 2) then (some u0) else (nm (st u0 2 3 1) fun u2 => (some u2))
def F_X0_slotPlace (x1 : Int32) (x2 : Int32) (u0 : St) : Option Int32 := b1 (F_X0_has x1 u0) fun r2 => (if r2 = 0 then (some (-1)) else (if x2 < 0 then (some (-1)) else (if 16 ≤ x2 then (some (-1)) else (ix 512 ((x1 * 16) + x2) (some (u0 13 (((x1 * 16) + x2)).toNatClampNeg))))))
def F_X0_upper (x1 : Int32) (u0 : St) : Option Int32 := b1 (F_X0_has x1 u0) fun r2 => (if r2 = 0 then (some (-1)) else (ix 32 x1 (some (u0 9 (x1).toNatClampNeg))))
def F_X3_parameterType (x1 : Int32) (x2 : Int32) (u0 : St) : Option Int32 := if x2 < 0 then (some (-1)) else (ix 64 x1 (if (u0 16 (x1).toNatClampNeg) ≤ x2 then (some (-1)) else (if 8 ≤ x2 then (some (-1)) else (ix 512 ((x1 * 8) + x2) (some (u0 17 (((x1 * 8) + x2)).toNatClampNeg))))))
def F_X3_standsFor_50 : Nat → Int32 → Int32 → Int32 → St → Option Int32
  | 0, _, _, _, _ => none
  | n + 1, x1, x2, x3, u0 => ix 64 x1 (if (u0 16 (x1).toNatClampNeg) ≤ x3 then (some 1) else (b1 (F_X3_parameterType x1 x3 u0) fun r4 => (b1 (F_X3_parameterType x2 x3 u0) fun r6 => (if r4 = r6 then (nm (x3 + 1) fun v8 => (F_X3_standsFor_50 n x1 x2 v8 u0)) else (some 0)))))
def F_X3_standsFor (x1 : Int32) (x2 : Int32) (u0 : St) : Option Int32 := b1 (F_X3_has x1 u0) fun r2 => (if r2 = 0 then (some 0) else (b1 (F_X3_has x2 u0) fun r5 => (if r5 = 0 then (some 0) else (ix 64 x1 (ix 64 x2 (if (u0 18 (x1).toNatClampNeg) = (u0 18 (x2).toNatClampNeg) then (ix 64 x1 (ix 64 x2 (if (u0 16 (x1).toNatClampNeg) = (u0 16 (x2).toNatClampNeg) then (F_X3_standsFor_50 fu x1 x2 1 u0) else (some 0)))) else (some 0)))))))
def F_X3_fitsSlot_57 (u0 : St) : Option Int32 := some 1
def F_X3_fitsSlot (x2 : Int32) (x3 : Int32) (u0 : St) : Option Int32 := b1 (F_X0_slotMethod x2 x3 u0) fun r2 => (b1 (F_X0_upper x2 u0) fun r4 => (b1 (F_X0_slotMethod r4 x3 u0) fun r6 => (b1 (F_X3_has r2 u0) fun r8 => (if r8 = 0 then (some 0) else (ix 64 r2 (if (u0 15 (r2).toNatClampNeg) = x2 then (if r6 = (-1) then (F_X3_fitsSlot_57 u0) else (b1 (F_X3_standsFor r2 r6 u0) fun r14 => (if r14 = 0 then (some 0) else (F_X3_fitsSlot_57 u0)))) else (some 0)))))))
def F_X3_misfitSlot_35 (k2 : Int32 → Int32 → St → Option Int32) (x2 : Int32) (x3 : Int32) (u0 : St) : Option Int32 := nm (x3 + 1) fun v1 => (k2 x2 v1 u0)
def F_X3_misfitSlot_2 : Nat → Int32 → Int32 → St → Option Int32
  | 0, _, _, _ => none
  | n + 1, x2, x3, u0 => if 16 ≤ x3 then (some (-1)) else (b1 (F_X0_slotPlace x2 x3 u0) fun r3 => (if r3 = (-1) then (F_X3_misfitSlot_35 (F_X3_misfitSlot_2 n) x2 x3 u0) else (b1 (F_X3_fitsSlot x2 x3 u0) fun r6 => (if r6 = 0 then (some r3) else (F_X3_misfitSlot_35 (F_X3_misfitSlot_2 n) x2 x3 u0)))))
def F_X3_misfitSlot (x2 : Int32) (u0 : St) : Option Int32 := F_X3_misfitSlot_2 fu x2 0 u0
def F_X1_size (x1 : Int32) (u0 : St) : Option Int32 := if x1 < 0 then (some 0) else (if 64 ≤ x1 then (some 0) else (ix 64 x1 (some (u0 23 (x1).toNatClampNeg))))
def F_X5_valueAt_5 : Nat → Int32 → Int32 → Int32 → Int32 → St → Option Int32
  | 0, _, _, _, _, _ => none
  | n + 1, x1, x2, x3, x4, u0 => if x2 ≤ x4 then (some x3) else (b1 (F_X5_byteAt (x1 + x4) u0) fun r3 => (nm (((x3 <<< (8 &&& 31)) ||| r3)) fun v4 => (nm (x4 + 1) fun v5 => (F_X5_valueAt_5 n x1 x2 v4 v5 u0))))
def F_X5_valueAt (x1 : Int32) (x2 : Int32) (u0 : St) : Option Int32 := F_X5_valueAt_5 fu x1 x2 0 0 u0
def F_X1_length (x1 : Int32) (u0 : St) : Option Int32 := if x1 < 0 then (some 0) else (if 64 ≤ x1 then (some 0) else (ix 64 x1 (some (u0 22 (x1).toNatClampNeg))))
def F_X1_beginsAt (x1 : Int32) (x2 : Int32) (u0 : St) : Option Int32 := if x2 < 0 then (some 0) else (b1 (F_X1_length x1 u0) fun r3 => (if x2 < r3 then (ix 64 x1 (nm (((u0 21 (x1).toNatClampNeg) + x2)) fun v6 => (nm ((v6 >>> (5 &&& 31))) fun v7 => (if v7 < 0 then (some 0) else (if 250 ≤ v7 then (some 0) else (ix 250 v7 (if ((ushr (u0 24 (v7).toNatClampNeg) (v6 &&& 31)) &&& 1) = 1 then (some 1) else (some 0)))))))) else (some 0)))
def F_X1_misfit_140 (k27 : Int32 → Int32 → Int32 → Int32 → Int32 → St → Option Int32) (x2 : Int32) (x3 : Int32) (x4 : Int32) (x5 : Int32) (x6 : Int32) (x7 : Int32) (u0 : St) : Option Int32 := b1 (F_X4_length x7 u0) fun r2 => (nm ((x5 + r2)) fun v3 => (nm (x6 + 1) fun v4 => (k27 x2 x3 x4 v3 v4 u0)))
def F_X1_misfit_113 (k27 : Int32 → Int32 → Int32 → Int32 → Int32 → St → Option Int32) (x2 : Int32) (x3 : Int32) (x4 : Int32) (x5 : Int32) (x6 : Int32) (x7 : Int32) (x9 : Int32) (u0 : St) : Option Int32 := b1 (F_X4_second x7 u0) fun r2 => (if r2 = 4 then (b1 (F_X5_valueAt x9 2 u0) fun r5 => (b1 (F_X1_beginsAt x2 r5 u0) fun r7 => (if r7 = 0 then (some x9) else (F_X1_misfit_140 k27 x2 x3 x4 x5 x6 x7 u0)))) else (F_X1_misfit_140 k27 x2 x3 x4 x5 x6 x7 u0))
def F_X1_misfit_85 (k27 : Int32 → Int32 → Int32 → Int32 → Int32 → St → Option Int32) (x2 : Int32) (x3 : Int32) (x4 : Int32) (x5 : Int32) (x6 : Int32) (x7 : Int32) (x8 : Int32) (x9 : Int32) (u0 : St) : Option Int32 := if x8 = 4 then (b1 (F_X5_valueAt (x5 + 1) 2 u0) fun r3 => (b1 (F_X1_beginsAt x2 r3 u0) fun r5 => (if r5 = 0 then (some (x5 + 1)) else (F_X1_misfit_113 k27 x2 x3 x4 x5 x6 x7 x9 u0)))) else (F_X1_misfit_113 k27 x2 x3 x4 x5 x6 x7 x9 u0)
def F_X1_misfit_27 : Nat → Int32 → Int32 → Int32 → Int32 → Int32 → St → Option Int32
  | 0, _, _, _, _, _, _ => none
  | n + 1, x2, x3, x4, x5, x6, u0 => if x4 ≤ x6 then (some (-1)) else (b1 (F_X5_byteAt x5 u0) fun r3 => (b1 (F_X4_first r3 u0) fun r5 => (b1 (F_X4_width r5 u0) fun r7 => (nm (((x5 + 1) + r7)) fun v8 => (if r5 = 8 then (b1 (F_X5_byteAt (x5 + 1) u0) fun r11 => (if r11 < x3 then (F_X1_misfit_85 (F_X1_misfit_27 n) x2 x3 x4 x5 x6 r3 r5 v8 u0) else (some (x5 + 1)))) else (F_X1_misfit_85 (F_X1_misfit_27 n) x2 x3 x4 x5 x6 r3 r5 v8 u0))))))
def F_X1_misfit_22 (x2 : Int32) (x3 : Int32) (x4 : Int32) (t0 : Int32) (u0 : St) : Option Int32 := F_X1_misfit_27 fu x2 x3 x4 t0 0 u0
def F_X1_misfit (x2 : Int32) (x3 : Int32) (u0 : St) : Option Int32 := b1 (F_X1_size x2 u0) fun r2 => (if r2 ≤ 0 then (F_X1_misfit_22 x2 x3 r2 0 u0) else (ix 64 x2 (F_X1_misfit_22 x2 x3 r2 (u0 21 (x2).toNatClampNeg) u0)))
def F_X2_size (x1 : Int32) (u0 : St) : Option Int32 := if x1 < 0 then (some 0) else (if 64 ≤ x1 then (some 0) else (ix 64 x1 (some (u0 26 (x1).toNatClampNeg))))
def F_X2_misfit_99 (k27 : Int32 → Int32 → Int32 → Int32 → St → Option Int32) (x3 : Int32) (x4 : Int32) (x5 : Int32) (x6 : Int32) (u0 : St) : Option Int32 := b1 (F_X5_valueAt (x5 + 5) 2 u0) fun r2 => (b1 (F_X1_beginsAt x3 r2 u0) fun r4 => (if r4 = 0 then (some (x5 + 5)) else (nm (x5 + 7) fun v6 => (nm (x6 + 1) fun v7 => (k27 x3 x4 v6 v7 u0)))))
def F_X2_misfit_27 : Nat → Int32 → Int32 → Int32 → Int32 → St → Option Int32
  | 0, _, _, _, _, _ => none
  | n + 1, x3, x4, x5, x6, u0 => if x4 ≤ x6 then (some (-1)) else (b1 (F_X5_valueAt x5 2 u0) fun r3 => (b1 (F_X5_valueAt (x5 + 2) 2 u0) fun r5 => (if r5 ≤ r3 then (some x5) else (b1 (F_X1_beginsAt x3 r3 u0) fun r8 => (if r8 = 0 then (some x5) else (b1 (F_X1_length x3 u0) fun r11 => (if r5 = r11 then (F_X2_misfit_99 (F_X2_misfit_27 n) x3 x4 x5 x6 u0) else (b1 (F_X1_beginsAt x3 r5 u0) fun r14 => (if r14 = 0 then (some (x5 + 2)) else (F_X2_misfit_99 (F_X2_misfit_27 n) x3 x4 x5 x6 u0))))))))))
def F_X2_misfit_22 (x3 : Int32) (x4 : Int32) (t0 : Int32) (u0 : St) : Option Int32 := F_X2_misfit_27 fu x3 x4 t0 0 u0
def F_X2_misfit (x3 : Int32) (u0 : St) : Option Int32 := b1 (F_X2_size x3 u0) fun r2 => (if r2 ≤ 0 then (F_X2_misfit_22 x3 r2 0 u0) else (ix 64 x3 (F_X2_misfit_22 x3 r2 (u0 25 (x3).toNatClampNeg) u0)))
def F_X3_misfit_82 (k35 : Int32 → St → Option Int32) (x3 : Int32) (t0 : Int32) (u0 : St) : Option Int32 := if t0 = (-1) then (nm (x3 + 1) fun v2 => (k35 v2 u0)) else (some t0)
def F_X3_misfit_35 : Nat → Int32 → St → Option Int32
  | 0, _, _ => none
  | n + 1, x3, u0 => if (u0 4 0) ≤ x3 then (some (-1)) else (b1 (F_X1_misfit x3 (u0 4 0) u0) fun r3 => (if r3 = (-1) then (b1 (F_X2_misfit x3 u0) fun r6 => (F_X3_misfit_82 (F_X3_misfit_35 n) x3 r6 u0)) else (F_X3_misfit_82 (F_X3_misfit_35 n) x3 r3 u0)))
def F_X3_misfit_2 : Nat → Int32 → St → Option Int32
  | 0, _, _ => none
  | n + 1, x3, u0 => b1 (F_X0_size u0) fun r2 => (if r2 ≤ x3 then (F_X3_misfit_35 fu 0 u0) else (b1 (F_X3_misfitSlot x3 u0) fun r5 => (if r5 = (-1) then (nm (x3 + 1) fun v7 => (F_X3_misfit_2 n v7 u0)) else (some r5))))
def F_X3_misfit (u0 : St) : Option Int32 := F_X3_misfit_2 fu 0 u0
def F_X1_total (u0 : St) : Option Int32 := some (u0 5 0)
def F_X3_instructions (u0 : St) : Option Int32 := b1 (F_X1_total u0) fun r2 => (some r2)
def F_X0_clear (u0 : St) : Option St := nm (st u0 3 0 0) fun u1 => (some u1)
def F_X5_take_12 (u0 : St) : Option (Int32 × St) := b1 (F_X6_clear u0) fun u1 => (some (0, u1))
def F_X5_take (x2 : Int32) (u0 : St) : Option (Int32 × St) := if x2 < 0 then (F_X5_take_12 u0) else (b1 (F_X6_length u0) fun r1 => (if x2 ≤ r1 then (nm (st u0 1 1 0) fun u1 => (nm (st u1 2 1 x2) fun u2 => (nm (st u2 2 2 0) fun u3 => (nm (st u3 2 3 0) fun u4 => (some (1, ssw u4)))))) else (F_X5_take_12 u0)))
def F_X7_end_85 (t0 : Int32) (u0 : St) : Option (Int32 × St) := if t0 = (-1) then (b1 (F_X3_instructions u0) fun r7 => (some (r7, u0))) else (b1 (F_X0_clear u0) fun u3 => (b1 (F_X3_clear u3) fun u5 => (some (((-3) - t0), u5))))
def F_X7_end (x1 : Int32) (u0 : St) : Option (Int32 × St) := b2 (F_X5_take x1 u0) fun rT uT => (if rT = 0 then (some ((-1), uT)) else (b1 (F_X0_read uT) fun u4 => (b1 (F_X3_read u4) fun u6 => (b1 (F_X5_close u6) fun u8 => (b1 (F_X5_stopped u8) fun r10 => (if r10 = 0 then (b1 (F_X3_misfit u8) fun r13 => (F_X7_end_85 r13 u8)) else (b1 (F_X5_place u8) fun r15 => (F_X7_end_85 r15 u8))))))))
def F_X3_size (u0 : St) : Option Int32 := some (u0 4 0)
def F_X3_first (u0 : St) : Option Int32 := some (u0 4 1)
def F_X7_count (x1 : Int32) (u0 : St) : Option Int32 := if x1 = 0 then (b1 (F_X0_size u0) fun r3 => (some r3)) else (if x1 = 1 then (b1 (F_X3_size u0) fun r6 => (some r6)) else (if x1 = 2 then (b1 (F_X3_instructions u0) fun r9 => (some r9)) else (if x1 = 3 then (b1 (F_X3_first u0) fun r12 => (some r12)) else (some (-1)))))
def F_X7_classOf (x1 : Int32) (x2 : Int32) (x3 : Int32) (u0 : St) : Option Int32 := if x2 = 0 then (b1 (F_X0_upper x1 u0) fun r3 => (some r3)) else (if x2 = 1 then (b1 (F_X0_fields x1 u0) fun r6 => (some r6)) else (if x2 = 2 then (b1 (F_X0_fieldType x1 x3 u0) fun r9 => (some r9)) else (if x2 = 3 then (b1 (F_X0_slotMethod x1 x3 u0) fun r12 => (some r12)) else (some (-1)))))
def F_X0_reaches_5 : Nat → Int32 → Int32 → Int32 → St → Option Int32
  | 0, _, _, _, _ => none
  | n + 1, x2, x3, x4, u0 => if 32 ≤ x4 then (some 0) else (b1 (F_X0_has x3 u0) fun r3 => (if r3 = 0 then (some 0) else (if x3 = x2 then (some 1) else (ix 32 x3 (nm ((u0 9 (x3).toNatClampNeg)) fun v7 => (nm (x4 + 1) fun v8 => (F_X0_reaches_5 n x2 v7 v8 u0)))))))
def F_X0_reaches (x1 : Int32) (x2 : Int32) (u0 : St) : Option Int32 := F_X0_reaches_5 fu x2 x1 0 u0
def F_X7_isA (x1 : Int32) (x2 : Int32) (u0 : St) : Option Int32 := b1 (F_X0_reaches x1 x2 u0) fun r2 => (bo r2 (some r2))
def F_X1_placeOf_26 : Nat → Int32 → Int32 → Int32 → Int32 → St → Option Int32
  | 0, _, _, _, _, _ => none
  | n + 1, x2, x3, x4, x5, u0 => if x3 ≤ x5 then (ix 64 x2 (some (x4 - (u0 21 (x2).toNatClampNeg)))) else (b1 (F_X5_byteAt x4 u0) fun r4 => (b1 (F_X4_length r4 u0) fun r6 => (nm ((x4 + r6)) fun v7 => (nm (x5 + 1) fun v8 => (F_X1_placeOf_26 n x2 x3 v7 v8 u0)))))
def F_X1_placeOf (x2 : Int32) (x3 : Int32) (u0 : St) : Option Int32 := if x3 < 0 then (some (-1)) else (b1 (F_X1_size x2 u0) fun r3 => (if x3 < r3 then (ix 64 x2 (nm ((u0 21 (x2).toNatClampNeg)) fun v6 => (F_X1_placeOf_26 fu x2 x3 v6 0 u0))) else (some (-1))))
def F_X3_fact (x2 : Int32) (x3 : Int32) (x4 : Int32) (u0 : St) : Option Int32 := b1 (F_X3_has x2 u0) fun r2 => (if r2 = 0 then (some (-1)) else (if x3 = 0 then (ix 64 x2 (some (u0 15 (x2).toNatClampNeg))) else (if x3 = 1 then (ix 64 x2 (some (u0 16 (x2).toNatClampNeg))) else (if x3 = 2 then (b1 (F_X3_parameterType x2 x4 u0) fun r10 => (some r10)) else (if x3 = 3 then (ix 64 x2 (some (u0 18 (x2).toNatClampNeg))) else (if x3 = 4 then (ix 64 x2 (some (u0 19 (x2).toNatClampNeg))) else (if x3 = 5 then (ix 64 x2 (some (u0 20 (x2).toNatClampNeg))) else (if x3 = 6 then (b1 (F_X1_length x2 u0) fun r19 => (some r19)) else (if x3 = 7 then (b1 (F_X1_size x2 u0) fun r22 => (some r22)) else (if x3 = 8 then (b1 (F_X1_placeOf x2 x4 u0) fun r25 => (some r25)) else (if x3 = 9 then (b1 (F_X2_size x2 u0) fun r28 => (some r28)) else (some (-1)))))))))))))
def F_X7_method (x1 : Int32) (x2 : Int32) (x3 : Int32) (u0 : St) : Option Int32 := b1 (F_X3_fact x1 x2 x3 u0) fun r2 => (some r2)
def F_X2_fact (x2 : Int32) (x3 : Int32) (x4 : Int32) (u0 : St) : Option Int32 := if x3 < 0 then (some (-1)) else (b1 (F_X2_size x2 u0) fun r3 => (if x3 < r3 then (ix 64 x2 (nm (((u0 25 (x2).toNatClampNeg) + (x3 * 7))) fun v6 => (if x4 = 0 then (b1 (F_X5_valueAt v6 2 u0) fun r9 => (some r9)) else (if x4 = 1 then (b1 (F_X5_valueAt (v6 + 2) 2 u0) fun r12 => (some r12)) else (if x4 = 2 then (b1 (F_X5_byteAt (v6 + 4) u0) fun r15 => (some r15)) else (if x4 = 3 then (b1 (F_X5_valueAt (v6 + 5) 2 u0) fun r18 => (some r18)) else (some (-1)))))))) else (some (-1))))
def F_X3_handlerFact (x2 : Int32) (x3 : Int32) (x4 : Int32) (u0 : St) : Option Int32 := b1 (F_X3_has x2 u0) fun r2 => (if r2 = 0 then (some (-1)) else (b1 (F_X2_fact x2 x3 x4 u0) fun r5 => (some r5)))
def F_X7_handler (x1 : Int32) (x2 : Int32) (x3 : Int32) (u0 : St) : Option Int32 := b1 (F_X3_handlerFact x1 x2 x3 u0) fun r2 => (some r2)
def F_X1_fact (x2 : Int32) (x3 : Int32) (x4 : Int32) (u0 : St) : Option Int32 := b1 (F_X1_beginsAt x2 x3 u0) fun r2 => (if r2 = 0 then (some (-1)) else (ix 64 x2 (nm (((u0 21 (x2).toNatClampNeg) + x3)) fun v5 => (b1 (F_X5_byteAt v5 u0) fun r7 => (b1 (F_X4_first r7 u0) fun r9 => (b1 (F_X4_width r9 u0) fun r11 => (if x4 = 0 then (some r7) else (if x4 = 1 then (b1 (F_X5_valueAt (v5 + 1) r11 u0) fun r15 => (some r15)) else (if x4 = 2 then (b1 (F_X4_second r7 u0) fun r18 => (b1 (F_X4_width r18 u0) fun r20 => (b1 (F_X5_valueAt ((v5 + 1) + r11) r20 u0) fun r22 => (some r22)))) else (if x4 = 3 then (b1 (F_X4_length r7 u0) fun r25 => (some (x3 + r25))) else (some (-1))))))))))))
def F_X3_instructionFact (x2 : Int32) (x3 : Int32) (x4 : Int32) (u0 : St) : Option Int32 := b1 (F_X3_has x2 u0) fun r2 => (if r2 = 0 then (some (-1)) else (b1 (F_X1_fact x2 x3 x4 u0) fun r5 => (some r5)))
def F_X7_instruction (x1 : Int32) (x2 : Int32) (x3 : Int32) (u0 : St) : Option Int32 := b1 (F_X3_instructionFact x1 x2 x3 u0) fun r2 => (some r2)
def F_X0_fault (x1 : Int32) (u0 : St) : Option Int32 := if (u0 3 0) ≤ 0 then (some (-1)) else (if x1 < 0 then (some (-1)) else (if 5 ≤ x1 then (some (-1)) else (ix 5 x1 (some (u0 14 (x1).toNatClampNeg)))))
def F_X7_thrown (x1 : Int32) (u0 : St) : Option Int32 := b1 (F_X0_fault x1 u0) fun r2 => (some r2)
end
section
def F_X8_feed_72 (k19 : Int32 → Int32 → Int32 → Int32 → Int32 → Int32 → St → Option (Int32 × St)) (x1 : Int32) (x2 : Int32) (x3 : Int32) (x4 : Int32) (x5 : Int32) (x6 : Int32) (t0 : Int32) (u0 : St) : Option (Int32 × St) := ix 8000 (u0 0 1) (nm (st u0 1 ((u0 0 1)).toNatClampNeg ((ushr t0 (24 - (8 * (x6 &&& 3)))) &&& 255)) fun u2 => (nm (st u2 0 1 ((u2 0 1) + 1)) fun u3 => (nm (x6 + 1) fun v4 => (k19 x1 x2 x3 x4 x5 v4 u3))))
def F_X8_feed_19 : Nat → Int32 → Int32 → Int32 → Int32 → Int32 → Int32 → St → Option (Int32 × St)
  | 0, _, _, _, _, _, _, _ => none
  | n + 1, x1, x2, x3, x4, x5, x6, u0 => if 20 ≤ x6 then (some ((u0 0 1), u0)) else (if 4 ≤ x6 then (if 8 ≤ x6 then (if 12 ≤ x6 then (if 16 ≤ x6 then (F_X8_feed_72 (F_X8_feed_19 n) x1 x2 x3 x4 x5 x6 x5 u0) else (F_X8_feed_72 (F_X8_feed_19 n) x1 x2 x3 x4 x5 x6 x4 u0)) else (F_X8_feed_72 (F_X8_feed_19 n) x1 x2 x3 x4 x5 x6 x3 u0)) else (F_X8_feed_72 (F_X8_feed_19 n) x1 x2 x3 x4 x5 x6 x2 u0)) else (F_X8_feed_72 (F_X8_feed_19 n) x1 x2 x3 x4 x5 x6 x1 u0))
def F_X8_feed (x1 : Int32) (x2 : Int32) (x3 : Int32) (x4 : Int32) (x5 : Int32) (u0 : St) : Option (Int32 × St) := if ((u0 0 1) + 20) ≤ 8000 then (F_X8_feed_19 fu x1 x2 x3 x4 x5 0 u0) else (some ((-2), u0))
def F_X8_bad (x1 : Int32) (u0 : St) : Option (Int32 × St) := if 0 ≤ (u0 0 6) then (nm (st u0 0 6 (u0 0 6)) fun u2 => (some (0, u2))) else (nm (st u0 0 6 x1) fun u3 => (some (0, u3)))
def F_X8_here (u0 : St) : Option Int32 := if (u0 0 4) ≤ (u0 0 5) then (some 256) else (ix 8000 (u0 0 5) (some (u0 2 ((u0 0 5)).toNatClampNeg)))
def F_X8_over_26 (u0 : St) : Option (Int32 × St) := b2 (F_X8_bad (u0 0 5) u0) fun r2 u3 => (bo r2 (some (r2, u3)))
def F_X8_over (x1 : Int32) (x2 : Int32) (u0 : St) : Option (Int32 × St) := b1 (F_X8_here u0) fun r2 => (if r2 < x1 then (F_X8_over_26 u0) else (b1 (F_X8_here u0) fun r5 => (if x2 < r5 then (F_X8_over_26 u0) else (b1 (F_X8_here u0) fun r8 => (if r8 = 256 then (F_X8_over_26 u0) else (nm (st u0 0 5 ((u0 0 5) + 1)) fun u10 => (some (1, u10))))))))
def F_X8_last (u0 : St) : Option Int32 := ix 8000 ((u0 0 5) - 1) (some (u0 2 (((u0 0 5) - 1)).toNatClampNeg))
def F_X8_two (x1 : Int32) (u0 : St) : Option Int32 := ix 8000 x1 (ix 8000 (x1 + 1) (some (((u0 2 (x1).toNatClampNeg) <<< (8 &&& 31)) ||| (u0 2 ((x1 + 1)).toNatClampNeg))))
def F_X8_overClass (u0 : St) : Option (Int32 × St) := b2 (F_X8_over 0 ((u0 0 8) - 1) u0) fun r2 u3 => (bo r2 (some (r2, u3)))
def F_X8_overType_46 (t0 : Int32) (u0 : St) : Option (Int32 × St) := if t0 = 0 then (b2 (F_X8_bad (u0 0 5) u0) fun r4 u5 => (bo r4 (some (r4, u5)))) else (nm (st u0 0 5 ((u0 0 5) + 1)) fun u2 => (some (1, u2)))
def F_X8_overType_41 (u0 : St) : Option (Int32 × St) := F_X8_overType_46 1 u0
def F_X8_overType_45 (u0 : St) : Option (Int32 × St) := F_X8_overType_46 0 u0
def F_X8_overType_30 (x1 : Int32) (x2 : Int32) (u0 : St) : Option (Int32 × St) := if x1 = 0 then (F_X8_overType_45 u0) else (if x2 = 255 then (F_X8_overType_41 u0) else (F_X8_overType_45 u0))
def F_X8_overType (x1 : Int32) (u0 : St) : Option (Int32 × St) := b1 (F_X8_here u0) fun r2 => (if r2 ≤ (u0 0 8) then (F_X8_overType_41 u0) else (if r2 < 64 then (F_X8_overType_30 x1 r2 u0) else (if r2 ≤ (64 + (u0 0 8)) then (F_X8_overType_41 u0) else (F_X8_overType_30 x1 r2 u0))))
def F_X8_readClass_279 : Nat → Int32 → Int32 → Int32 → Int32 → St → Option (Int32 × St)
  | 0, _, _, _, _, _ => none
  | n + 1, x1, x4, x5, x6, u0 => if x4 ≤ x6 then (some (1, u0)) else (b2 (F_X8_over x5 15 u0) fun r3 u4 => (if r3 = 0 then (some (0, u4)) else (b1 (F_X8_last u4) fun r7 => (nm ((r7 + 1)) fun v8 => (b2 (F_X8_over 0 255 u4) fun r10 u11 => (if r10 = 0 then (some (0, u11)) else (b1 (F_X8_last u11) fun r14 => (ix 512 ((16 * x1) + r7) (nm (st u11 7 (((16 * x1) + r7)).toNatClampNeg r14) fun u16 => (ix 512 ((16 * x1) + r7) (nm (st u16 8 (((16 * x1) + r7)).toNatClampNeg ((u16 0 5) - 1)) fun u18 => (nm (x6 + 1) fun v19 => (F_X8_readClass_279 n x1 x4 v8 v19 u18)))))))))))))
def F_X8_readClass_235 (k197 : Int32 → Int32 → Int32 → St → Option (Int32 × St)) (x1 : Int32) (x2 : Int32) (x4 : Int32) (t0 : Int32) (t1 : Int32) (u0 : St) : Option (Int32 × St) := ix 512 t1 (nm (st u0 7 (t1).toNatClampNeg t0) fun u2 => (ix 512 ((16 * x1) + x4) (nm (st u2 8 (((16 * x1) + x4)).toNatClampNeg (-1)) fun u4 => (nm (x4 + 1) fun v5 => (k197 x1 x2 v5 u4)))))
def F_X8_readClass_197 : Nat → Int32 → Int32 → Int32 → St → Option (Int32 × St)
  | 0, _, _, _, _ => none
  | n + 1, x1, x2, x4, u0 => if 16 ≤ x4 then (b2 (F_X8_over 0 16 u0) fun r3 u4 => (if r3 = 0 then (some (0, u4)) else (b1 (F_X8_last u4) fun r7 => (F_X8_readClass_279 fu x1 r7 0 0 u4)))) else (if 0 ≤ x2 then (ix 512 ((16 * x2) + x4) (F_X8_readClass_235 (F_X8_readClass_197 n) x1 x2 x4 (u0 7 (((16 * x2) + x4)).toNatClampNeg) ((16 * x1) + x4) u0)) else (F_X8_readClass_235 (F_X8_readClass_197 n) x1 x2 x4 (-1) ((16 * x1) + x4) u0))
def F_X8_readClass_151 : Nat → Int32 → Int32 → Int32 → St → Option (Int32 × St)
  | 0, _, _, _, _ => none
  | n + 1, x1, x2, x4, u0 => ix 32 x1 (if (u0 5 (x1).toNatClampNeg) ≤ x4 then (F_X8_readClass_197 fu x1 x2 0 u0) else (b2 (F_X8_overType 0 u0) fun r4 u5 => (if r4 = 0 then (some (0, u5)) else (b1 (F_X8_last u5) fun r8 => (ix 480 ((15 * x1) + x4) (nm (st u5 6 (((15 * x1) + x4)).toNatClampNeg r8) fun u10 => (nm (x4 + 1) fun v11 => (F_X8_readClass_151 n x1 x2 v11 u10))))))))
def F_X8_readClass_86 : Nat → Int32 → Int32 → Int32 → Int32 → St → Option (Int32 × St)
  | 0, _, _, _, _, _ => none
  | n + 1, x1, x2, x3, x4, u0 => if x3 ≤ x4 then (b2 (F_X8_over 0 (15 - x3) u0) fun r3 u4 => (if r3 = 0 then (some (0, u4)) else (b1 (F_X8_last u4) fun r7 => (ix 32 x1 (nm (st u4 5 (x1).toNatClampNeg (x3 + r7)) fun u9 => (F_X8_readClass_151 fu x1 x2 x3 u9)))))) else (ix 480 ((15 * x2) + x4) (ix 480 ((15 * x1) + x4) (nm (st u0 6 (((15 * x1) + x4)).toNatClampNeg (u0 6 (((15 * x2) + x4)).toNatClampNeg)) fun u12 => (nm (x4 + 1) fun v13 => (F_X8_readClass_86 n x1 x2 x3 v13 u12)))))
def F_X8_readClass_82 (x1 : Int32) (x2 : Int32) (t0 : Int32) (u0 : St) : Option (Int32 × St) := F_X8_readClass_86 fu x1 x2 t0 0 u0
def F_X8_readClass_50 (x1 : Int32) (t0 : Int32) (t1 : Int32) (u0 : St) : Option (Int32 × St) := ix 32 t1 (nm (st u0 4 (t1).toNatClampNeg t0) fun u2 => (nm (st u2 0 5 ((u2 0 5) + 1)) fun u3 => (ix 32 x1 (nm ((u3 4 (x1).toNatClampNeg)) fun v5 => (if 0 ≤ v5 then (ix 32 v5 (F_X8_readClass_82 x1 v5 (u3 5 (v5).toNatClampNeg) u3)) else (F_X8_readClass_82 x1 v5 0 u3))))))
def F_X8_readClass_27 (x1 : Int32) (u0 : St) : Option (Int32 × St) := b1 (F_X8_here u0) fun r2 => (if r2 = 255 then (F_X8_readClass_50 x1 (-1) x1 u0) else (b1 (F_X8_here u0) fun r5 => (F_X8_readClass_50 x1 r5 x1 u0)))
def F_X8_readClass (x1 : Int32) (u0 : St) : Option (Int32 × St) := b1 (F_X8_here u0) fun r2 => (if r2 = 255 then (F_X8_readClass_27 x1 u0) else (b1 (F_X8_here u0) fun r5 => (if r5 < x1 then (F_X8_readClass_27 x1 u0) else (b2 (F_X8_bad (u0 0 5) u0) fun r8 u9 => (bo r8 (some (r8, u9)))))))
def F_X8_wide_20 (u0 : St) : Option Int32 := some 4
def F_X8_wide_54 (u0 : St) : Option Int32 := some 3
def F_X8_wide_92 (u0 : St) : Option Int32 := some 2
def F_X8_wide_86 (x0 : Int32) (u0 : St) : Option Int32 := if x0 = 35 then (F_X8_wide_92 u0) else (some 1)
def F_X8_wide_36 (x0 : Int32) (u0 : St) : Option Int32 := if x0 = 27 then (F_X8_wide_54 u0) else (if x0 = 28 then (F_X8_wide_54 u0) else (if x0 = 36 then (F_X8_wide_54 u0) else (if x0 = 2 then (F_X8_wide_92 u0) else (if x0 = 3 then (F_X8_wide_92 u0) else (if x0 = 26 then (F_X8_wide_92 u0) else (if x0 < 29 then (F_X8_wide_86 x0 u0) else (if x0 ≤ 31 then (F_X8_wide_92 u0) else (F_X8_wide_86 x0 u0))))))))
def F_X8_wide (x0 : Int32) (u0 : St) : Option Int32 := if x0 = 0 then (some 5) else (if x0 = 19 then (F_X8_wide_20 u0) else (if x0 = 20 then (F_X8_wide_20 u0) else (if x0 < 21 then (F_X8_wide_36 x0 u0) else (if x0 ≤ 25 then (F_X8_wide_54 u0) else (F_X8_wide_36 x0 u0)))))
def F_X8_readInstruction_439 (x3 : Int32) (x5 : Int32) (u0 : St) : Option (Int32 × St) := if x5 = 0 then (bo x5 (some (x5, u0))) else (ix 8000 x3 (nm (st u0 3 (x3).toNatClampNeg 1) fun u4 => (nm (st u4 0 26 ((u4 0 26) + 1)) fun u5 => (bo x5 (some (x5, u5))))))
def F_X8_readInstruction_97 (x3 : Int32) (t0 : Int32) (u0 : St) : Option (Int32 × St) := F_X8_readInstruction_439 x3 t0 u0
def F_X8_readInstruction_96 (x3 : Int32) (u0 : St) : Option (Int32 × St) := F_X8_readInstruction_97 x3 0 u0
def F_X8_readInstruction_114 (x1 : Int32) (x3 : Int32) (u0 : St) : Option (Int32 × St) := ix 64 x1 (b2 (F_X8_over 0 ((u0 14 (x1).toNatClampNeg) - 1) u0) fun r3 u4 => (F_X8_readInstruction_439 x3 r3 u4))
def F_X8_readInstruction_182 (x3 : Int32) (t0 : Int32) (u0 : St) : Option (Int32 × St) := F_X8_readInstruction_439 x3 t0 u0
def F_X8_readInstruction_181 (x3 : Int32) (u0 : St) : Option (Int32 × St) := F_X8_readInstruction_182 x3 0 u0
def F_X8_readInstruction_146 (x3 : Int32) (u0 : St) : Option (Int32 × St) := b2 (F_X8_over 0 5 u0) fun r2 u3 => (if r2 = 0 then (F_X8_readInstruction_181 x3 u3) else (b2 (F_X8_over 0 255 u3) fun r6 u7 => (if r6 = 0 then (F_X8_readInstruction_181 x3 u7) else (b2 (F_X8_over 0 255 u7) fun r10 u11 => (if r10 = 0 then (F_X8_readInstruction_181 x3 u11) else (F_X8_readInstruction_182 x3 1 u11))))))
def F_X8_readInstruction_228 (x3 : Int32) (t0 : Int32) (u0 : St) : Option (Int32 × St) := F_X8_readInstruction_439 x3 t0 u0
def F_X8_readInstruction_227 (x3 : Int32) (u0 : St) : Option (Int32 × St) := F_X8_readInstruction_228 x3 0 u0
def F_X8_readInstruction_254 (x3 : Int32) (u0 : St) : Option (Int32 × St) := b2 (F_X8_overClass u0) fun r2 u3 => (F_X8_readInstruction_439 x3 r2 u3)
def F_X8_readInstruction_308 (x3 : Int32) (t0 : Int32) (u0 : St) : Option (Int32 × St) := F_X8_readInstruction_439 x3 t0 u0
def F_X8_readInstruction_307 (x3 : Int32) (u0 : St) : Option (Int32 × St) := F_X8_readInstruction_308 x3 0 u0
def F_X8_readInstruction_277 (x3 : Int32) (u0 : St) : Option (Int32 × St) := b2 (F_X8_overClass u0) fun r2 u3 => (if r2 = 0 then (F_X8_readInstruction_307 x3 u3) else (b1 (F_X8_last u3) fun r6 => (ix 32 r6 (b2 (F_X8_over 0 ((u3 5 (r6).toNatClampNeg) - 1) u3) fun r9 u10 => (if r9 = 0 then (F_X8_readInstruction_307 x3 u10) else (F_X8_readInstruction_308 x3 1 u10))))))
def F_X8_readInstruction_437 (x3 : Int32) (t0 : Int32) (u0 : St) : Option (Int32 × St) := F_X8_readInstruction_439 x3 t0 u0
def F_X8_readInstruction_411 (x3 : Int32) (t0 : Int32) (u0 : St) : Option (Int32 × St) := if t0 = 0 then (b2 (F_X8_bad (u0 0 5) u0) fun r3 u4 => (F_X8_readInstruction_437 x3 r3 u4)) else (b2 (F_X8_over 0 255 u0) fun r6 u7 => (F_X8_readInstruction_437 x3 r6 u7))
def F_X8_readInstruction_410 (x3 : Int32) (u0 : St) : Option (Int32 × St) := F_X8_readInstruction_411 x3 0 u0
def F_X8_readInstruction_233 (x3 : Int32) (x4 : Int32) (x5 : Int32) (u0 : St) : Option (Int32 × St) := if x4 = 26 then (F_X8_readInstruction_254 x3 u0) else (if x4 = 29 then (F_X8_readInstruction_254 x3 u0) else (if x4 = 30 then (F_X8_readInstruction_254 x3 u0) else (if x4 = 27 then (F_X8_readInstruction_277 x3 u0) else (if x4 = 28 then (F_X8_readInstruction_277 x3 u0) else (if x4 = 31 then (b2 (F_X8_over 0 (u0 0 8) u0) fun r26 u27 => (F_X8_readInstruction_439 x3 r26 u27)) else (if x4 = 35 then (b2 (F_X8_over 0 255 u0) fun r23 u24 => (F_X8_readInstruction_439 x3 r23 u24)) else (if x4 = 36 then (b2 (F_X8_overClass u0) fun r10 u11 => (if r10 = 0 then (F_X8_readInstruction_439 x3 r10 u11) else (b1 (F_X8_last u11) fun r14 => (b1 (F_X8_here u11) fun r16 => (if 16 ≤ r16 then (F_X8_readInstruction_410 x3 u11) else (b1 (F_X8_here u11) fun r19 => (ix 512 ((16 * r14) + r19) (if (u11 7 (((16 * r14) + r19)).toNatClampNeg) = (-1) then (F_X8_readInstruction_410 x3 u11) else (F_X8_readInstruction_411 x3 1 u11))))))))) else (F_X8_readInstruction_439 x3 x5 u0))))))))
def F_X8_readInstruction (x1 : Int32) (x2 : Int32) (u0 : St) : Option (Int32 × St) := nm ((u0 0 5)) fun v1 => (b2 (F_X8_over 0 41 u0) fun r3 u4 => (if r3 = 0 then (some (0, u4)) else (b1 (F_X8_last u4) fun r7 => (b1 (F_X8_wide r7 u4) fun r9 => (if (v1 + r9) ≤ x2 then (if r7 = 0 then (b2 (F_X8_over 0 255 u4) fun r27 u28 => (if r27 = 0 then (F_X8_readInstruction_96 v1 u28) else (b2 (F_X8_over 0 255 u28) fun r31 u32 => (if r31 = 0 then (F_X8_readInstruction_96 v1 u32) else (b2 (F_X8_over 0 255 u32) fun r35 u36 => (if r35 = 0 then (F_X8_readInstruction_96 v1 u36) else (b2 (F_X8_over 0 255 u36) fun r39 u40 => (if r39 = 0 then (F_X8_readInstruction_96 v1 u40) else (F_X8_readInstruction_97 v1 1 u40))))))))) else (if r7 = 2 then (F_X8_readInstruction_114 x1 v1 u4) else (if r7 = 3 then (F_X8_readInstruction_114 x1 v1 u4) else (if r7 = 19 then (F_X8_readInstruction_146 v1 u4) else (if r7 = 20 then (F_X8_readInstruction_146 v1 u4) else (if r7 < 21 then (F_X8_readInstruction_233 v1 r7 1 u4) else (if 25 < r7 then (F_X8_readInstruction_233 v1 r7 1 u4) else (b2 (F_X8_over 0 255 u4) fun r19 u20 => (if r19 = 0 then (F_X8_readInstruction_227 v1 u20) else (b2 (F_X8_over 0 255 u20) fun r23 u24 => (if r23 = 0 then (F_X8_readInstruction_227 v1 u24) else (F_X8_readInstruction_228 v1 1 u24)))))))))))) else (b2 (F_X8_bad v1 u4) fun r43 u44 => (bo r43 (some (r43, u44)))))))))
def F_X8_readMethod_477 (k388 : Int32 → Int32 → St → Option (Int32 × St)) (x1 : Int32) (x5 : Int32) (t0 : Int32) (u0 : St) : Option (Int32 × St) := if t0 = 0 then (some (0, u0)) else (nm (x5 + 1) fun v2 => (k388 x1 v2 u0))
def F_X8_readMethod_476 (k388 : Int32 → Int32 → St → Option (Int32 × St)) (x1 : Int32) (x5 : Int32) (u0 : St) : Option (Int32 × St) := F_X8_readMethod_477 k388 x1 x5 0 u0
def F_X8_readMethod_388 : Nat → Int32 → Int32 → St → Option (Int32 × St)
  | 0, _, _, _ => none
  | n + 1, x1, x5, u0 => ix 64 x1 (if (u0 18 (x1).toNatClampNeg) ≤ x5 then (some (1, u0)) else (b2 (F_X8_over 0 255 u0) fun r4 u5 => (if r4 = 0 then (F_X8_readMethod_476 (F_X8_readMethod_388 n) x1 x5 u5) else (b2 (F_X8_over 0 255 u5) fun r8 u9 => (if r8 = 0 then (F_X8_readMethod_476 (F_X8_readMethod_388 n) x1 x5 u9) else (b2 (F_X8_over 0 255 u9) fun r12 u13 => (if r12 = 0 then (F_X8_readMethod_476 (F_X8_readMethod_388 n) x1 x5 u13) else (b2 (F_X8_over 0 255 u13) fun r16 u17 => (if r16 = 0 then (F_X8_readMethod_476 (F_X8_readMethod_388 n) x1 x5 u17) else (b2 (F_X8_overClass u17) fun r20 u21 => (if r20 = 0 then (F_X8_readMethod_476 (F_X8_readMethod_388 n) x1 x5 u21) else (b2 (F_X8_over 0 255 u21) fun r24 u25 => (if r24 = 0 then (F_X8_readMethod_476 (F_X8_readMethod_388 n) x1 x5 u25) else (b2 (F_X8_over 0 255 u25) fun r28 u29 => (if r28 = 0 then (F_X8_readMethod_476 (F_X8_readMethod_388 n) x1 x5 u29) else (F_X8_readMethod_477 (F_X8_readMethod_388 n) x1 x5 1 u29))))))))))))))))
def F_X8_readMethod_332 : Nat → Int32 → Int32 → St → Option (Int32 × St)
  | 0, _, _, _ => none
  | n + 1, x1, x4, u0 => if x4 ≤ (u0 0 5) then (b2 (F_X8_over 0 8 u0) fun r3 u4 => (if r3 = 0 then (some (0, u4)) else (b1 (F_X8_last u4) fun r7 => (ix 64 x1 (nm (st u4 18 (x1).toNatClampNeg r7) fun u9 => (ix 64 x1 (nm (st u9 19 (x1).toNatClampNeg (u9 0 5)) fun u11 => (F_X8_readMethod_388 fu x1 0 u11)))))))) else (b2 (F_X8_readInstruction x1 x4 u0) fun r13 u14 => (if r13 = 0 then (some (0, u14)) else (F_X8_readMethod_332 n x1 x4 u14)))
def F_X8_readMethod_285 (x1 : Int32) (t0 : Int32) (t1 : Int32) (u0 : St) : Option (Int32 × St) := b2 (F_X8_over t1 t0 u0) fun r2 u3 => (if r2 = 0 then (some (0, u3)) else (b1 (F_X8_two ((u3 0 5) - 2) u3) fun r6 => (ix 64 x1 (nm (st u3 17 (x1).toNatClampNeg r6) fun u8 => (ix 64 x1 (nm (st u8 16 (x1).toNatClampNeg (u8 0 5)) fun u10 => (ix 64 x1 (nm (((u10 0 5) + (u10 17 (x1).toNatClampNeg))) fun v12 => (F_X8_readMethod_332 fu x1 v12 u10)))))))))
def F_X8_readMethod_268 (x1 : Int32) (t0 : Int32) (u0 : St) : Option (Int32 × St) := b1 (F_X8_last u0) fun r2 => (if r2 = 3 then (F_X8_readMethod_285 x1 232 t0 u0) else (F_X8_readMethod_285 x1 255 t0 u0))
def F_X8_readMethod_194 (x1 : Int32) (x3 : Int32) (t0 : Int32) (t1 : Int32) (u0 : St) : Option (Int32 × St) := ix 64 t1 (nm (st u0 13 (t1).toNatClampNeg t0) fun u2 => (b2 (F_X8_over x3 12 u2) fun r4 u5 => (if r4 = 0 then (some (0, u5)) else (b1 (F_X8_last u5) fun r8 => (ix 64 x1 (nm (st u5 14 (x1).toNatClampNeg r8) fun u10 => (ix 64 x1 (b2 (F_X8_over 0 (12 - (u10 14 (x1).toNatClampNeg)) u10) fun r13 u14 => (if r13 = 0 then (some (0, u14)) else (b1 (F_X8_last u14) fun r17 => (ix 64 x1 (nm (st u14 15 (x1).toNatClampNeg r17) fun u19 => (b2 (F_X8_over 0 3 u19) fun r21 u22 => (if r21 = 0 then (some (0, u22)) else (b1 (F_X8_last u22) fun r25 => (if r25 = 0 then (F_X8_readMethod_268 x1 1 u22) else (F_X8_readMethod_268 x1 0 u22)))))))))))))))))
def F_X8_readMethod_114 : Nat → Int32 → Int32 → Int32 → Int32 → St → Option (Int32 × St)
  | 0, _, _, _, _, _ => none
  | n + 1, x1, x2, x3, x4, u0 => if x2 ≤ x4 then (ix 64 x1 (nm (st u0 11 (x1).toNatClampNeg x3) fun u3 => (b2 (F_X8_overType 1 u3) fun r5 u6 => (if r5 = 0 then (some (0, u6)) else (b1 (F_X8_last u6) fun r9 => (if r9 = 255 then (F_X8_readMethod_194 x1 x3 (-1) x1 u6) else (b1 (F_X8_last u6) fun r12 => (F_X8_readMethod_194 x1 x3 r12 x1 u6)))))))) else (b2 (F_X8_overType 0 u0) fun r14 u15 => (if r14 = 0 then (some (0, u15)) else (b1 (F_X8_last u15) fun r18 => (ix 512 ((8 * x1) + x3) (nm (st u15 12 (((8 * x1) + x3)).toNatClampNeg r18) fun u20 => (nm (x3 + 1) fun v21 => (nm (x4 + 1) fun v22 => (F_X8_readMethod_114 n x1 x2 v21 v22 u20))))))))
def F_X8_readMethod_111 (x1 : Int32) (x2 : Int32) (x3 : Int32) (u0 : St) : Option (Int32 × St) := F_X8_readMethod_114 fu x1 x2 x3 0 u0
def F_X8_readMethod_53 (x1 : Int32) (t0 : Int32) (t1 : Int32) (u0 : St) : Option (Int32 × St) := ix 64 t1 (nm (st u0 10 (t1).toNatClampNeg t0) fun u2 => (nm (st u2 0 5 ((u2 0 5) + 1)) fun u3 => (b2 (F_X8_over 0 7 u3) fun r5 u6 => (if r5 = 0 then (some (0, u6)) else (b1 (F_X8_last u6) fun r9 => (ix 64 x1 (if (u6 10 (x1).toNatClampNeg) < 0 then (F_X8_readMethod_111 x1 r9 0 u6) else (ix 64 x1 (ix 512 (8 * x1) (nm (st u6 12 ((8 * x1)).toNatClampNeg (1 + (u6 10 (x1).toNatClampNeg))) fun u14 => (F_X8_readMethod_111 x1 r9 1 u14)))))))))))
def F_X8_readMethod_30 (x1 : Int32) (u0 : St) : Option (Int32 × St) := b1 (F_X8_here u0) fun r2 => (if r2 = 255 then (F_X8_readMethod_53 x1 (-1) x1 u0) else (b1 (F_X8_here u0) fun r5 => (F_X8_readMethod_53 x1 r5 x1 u0)))
def F_X8_readMethod (x1 : Int32) (u0 : St) : Option (Int32 × St) := b1 (F_X8_here u0) fun r2 => (if r2 = 255 then (F_X8_readMethod_30 x1 u0) else (b1 (F_X8_here u0) fun r5 => (if r5 < (u0 0 8) then (F_X8_readMethod_30 x1 u0) else (b2 (F_X8_bad (u0 0 5) u0) fun r8 u9 => (bo r8 (some (r8, u9)))))))
def F_X8_readAll_156 (u0 : St) : Option (Int32 × St) := b2 (F_X8_bad (u0 0 5) u0) fun r2 u3 => (bo r2 (some (r2, u3)))
def F_X8_readAll_202 (u0 : St) : Option (Int32 × St) := some (1, u0)
def F_X8_readAll_100 : Nat → Int32 → St → Option (Int32 × St)
  | 0, _, _ => none
  | n + 1, x1, u0 => if (u0 0 15) ≤ x1 then (b1 (F_X8_here u0) fun r3 => (if (u0 0 15) ≤ r3 then (F_X8_readAll_156 u0) else (ix 64 r3 (if (u0 10 (r3).toNatClampNeg) = (-1) then (ix 64 r3 (if (u0 11 (r3).toNatClampNeg) ≤ 0 then (nm (st u0 0 27 r3) fun u9 => (nm (st u9 0 5 ((u9 0 5) + 1)) fun u10 => (if (u10 0 5) = (u10 0 4) then (F_X8_readAll_202 u10) else (b2 (F_X8_bad (u10 0 5) u10) fun r13 u14 => (if r13 = 0 then (some (0, u14)) else (F_X8_readAll_202 u14)))))) else (F_X8_readAll_156 u0))) else (F_X8_readAll_156 u0))))) else (b2 (F_X8_readMethod x1 u0) fun r17 u18 => (if r17 = 0 then (some (0, u18)) else (nm (x1 + 1) fun v20 => (F_X8_readAll_100 n v20 u18))))
def F_X8_readAll_48 : Nat → Int32 → St → Option (Int32 × St)
  | 0, _, _ => none
  | n + 1, x1, u0 => if 5 ≤ x1 then (b2 (F_X8_over 1 64 u0) fun r3 u4 => (if r3 = 0 then (some (0, u4)) else (b1 (F_X8_last u4) fun r7 => (nm (st u4 0 15 r7) fun u8 => (F_X8_readAll_100 fu 0 u8))))) else (b2 (F_X8_overClass u0) fun r10 u11 => (if r10 = 0 then (some (0, u11)) else (b1 (F_X8_last u11) fun r14 => (ix 5 x1 (nm (st u11 9 (x1).toNatClampNeg r14) fun u16 => (nm (x1 + 1) fun v17 => (F_X8_readAll_48 n v17 u16)))))))
def F_X8_readAll_22 : Nat → Int32 → St → Option (Int32 × St)
  | 0, _, _ => none
  | n + 1, x1, u0 => if (u0 0 8) ≤ x1 then (F_X8_readAll_48 fu 0 u0) else (b2 (F_X8_readClass x1 u0) fun r3 u4 => (if r3 = 0 then (some (0, u4)) else (nm (x1 + 1) fun v6 => (F_X8_readAll_22 n v6 u4))))
def F_X8_readAll (u0 : St) : Option (Int32 × St) := b2 (F_X8_over 1 32 u0) fun r2 u3 => (if r2 = 0 then (some (0, u3)) else (b1 (F_X8_last u3) fun r6 => (nm (st u3 0 8 r6) fun u7 => (F_X8_readAll_22 fu 0 u7))))
def F_X8_note_20 (x1 : Int32) (u0 : St) : Option St := nm (st u0 0 6 x1) fun u1 => (some u1)
def F_X8_note (x1 : Int32) (x2 : Int32) (u0 : St) : Option St := if x2 = 0 then (if (u0 0 6) < 0 then (F_X8_note_20 x1 u0) else (if (u0 0 6) ≤ x1 then (nm (st u0 0 6 (u0 0 6)) fun u5 => (some u5)) else (F_X8_note_20 x1 u0))) else (nm (st u0 0 6 (u0 0 6)) fun u2 => (some u2))
def F_X8_isBegin (x1 : Int32) (x2 : Int32) (u0 : St) : Option Int32 := ix 64 x1 (if (u0 17 (x1).toNatClampNeg) ≤ x2 then (some 0) else (ix 64 x1 (ix 8000 ((u0 16 (x1).toNatClampNeg) + x2) (if (u0 3 (((u0 16 (x1).toNatClampNeg) + x2)).toNatClampNeg) = 0 then (some 0) else (some 1)))))
def F_X8_isLike_86 (k39 : Int32 → Int32 → Int32 → Int32 → St → Option Int32) (x1 : Int32) (x2 : Int32) (x4 : Int32) (t0 : Int32) (u0 : St) : Option Int32 := nm (x4 + 1) fun v1 => (k39 x1 x2 t0 v1 u0)
def F_X8_isLike_39 : Nat → Int32 → Int32 → Int32 → Int32 → St → Option Int32
  | 0, _, _, _, _, _ => none
  | n + 1, x1, x2, x3, x4, u0 => ix 64 x1 (if (u0 11 (x1).toNatClampNeg) ≤ x4 then (bo x3 (some x3)) else (if x3 = 0 then (bo x3 (some x3)) else (ix 512 ((8 * x1) + x4) (ix 512 ((8 * x2) + x4) (if (u0 12 (((8 * x1) + x4)).toNatClampNeg) = (u0 12 (((8 * x2) + x4)).toNatClampNeg) then (F_X8_isLike_86 (F_X8_isLike_39 n) x1 x2 x4 1 u0) else (F_X8_isLike_86 (F_X8_isLike_39 n) x1 x2 x4 0 u0))))))
def F_X8_isLike_35 (x1 : Int32) (x2 : Int32) (t0 : Int32) (u0 : St) : Option Int32 := F_X8_isLike_39 fu x1 x2 t0 1 u0
def F_X8_isLike_34 (x1 : Int32) (x2 : Int32) (u0 : St) : Option Int32 := F_X8_isLike_35 x1 x2 0 u0
def F_X8_isLike (x1 : Int32) (x2 : Int32) (u0 : St) : Option Int32 := ix 64 x1 (ix 64 x2 (if (u0 11 (x1).toNatClampNeg) = (u0 11 (x2).toNatClampNeg) then (ix 64 x1 (ix 64 x2 (if (u0 13 (x1).toNatClampNeg) = (u0 13 (x2).toNatClampNeg) then (F_X8_isLike_35 x1 x2 1 u0) else (F_X8_isLike_34 x1 x2 u0)))) else (F_X8_isLike_34 x1 x2 u0)))
def F_X8_checkSlots_131 (k2 : Int32 → St → Option St) (x1 : Int32) (u0 : St) : Option St := nm (x1 + 1) fun v1 => (k2 v1 u0)
def F_X8_checkSlots_117 (k2 : Int32 → St → Option St) (x1 : Int32) (t0 : Int32) (u0 : St) : Option St := ix 512 x1 (b1 (F_X8_note (u0 8 (x1).toNatClampNeg) t0 u0) fun u3 => (F_X8_checkSlots_131 k2 x1 u3))
def F_X8_checkSlots_112 (k2 : Int32 → St → Option St) (x1 : Int32) (u0 : St) : Option St := F_X8_checkSlots_117 k2 x1 1 u0
def F_X8_checkSlots_116 (k2 : Int32 → St → Option St) (x1 : Int32) (u0 : St) : Option St := F_X8_checkSlots_117 k2 x1 0 u0
def F_X8_checkSlots_67 (k2 : Int32 → St → Option St) (x1 : Int32) (x2 : Int32) (x3 : Int32) (t0 : Int32) (u0 : St) : Option St := if (u0 0 15) ≤ x3 then (F_X8_checkSlots_116 k2 x1 u0) else (ix 64 x3 (if (u0 10 (x3).toNatClampNeg) = x2 then (if t0 = (-1) then (F_X8_checkSlots_112 k2 x1 u0) else (if (u0 0 15) ≤ t0 then (F_X8_checkSlots_112 k2 x1 u0) else (b1 (F_X8_isLike x3 t0 u0) fun r7 => (if r7 = 0 then (F_X8_checkSlots_116 k2 x1 u0) else (F_X8_checkSlots_112 k2 x1 u0))))) else (F_X8_checkSlots_116 k2 x1 u0)))
def F_X8_checkSlots_2 : Nat → Int32 → St → Option St
  | 0, _, _ => none
  | n + 1, x1, u0 => if (16 * (u0 0 8)) ≤ x1 then (some u0) else (nm ((x1 / 16)) fun v2 => (ix 512 x1 (nm ((u0 7 (x1).toNatClampNeg)) fun v4 => (ix 512 x1 (if (u0 8 (x1).toNatClampNeg) = (-1) then (F_X8_checkSlots_131 (F_X8_checkSlots_2 n) x1 u0) else (ix 32 v2 (if 0 ≤ (u0 4 (v2).toNatClampNeg) then (ix 32 v2 (ix 512 ((16 * (u0 4 (v2).toNatClampNeg)) + (x1 - x1 / 16 * 16)) (F_X8_checkSlots_67 (F_X8_checkSlots_2 n) x1 v2 v4 (u0 7 (((16 * (u0 4 (v2).toNatClampNeg)) + (x1 - x1 / 16 * 16))).toNatClampNeg) u0))) else (F_X8_checkSlots_67 (F_X8_checkSlots_2 n) x1 v2 v4 (-1) u0))))))))
def F_X8_checkSlots (u0 : St) : Option St := F_X8_checkSlots_2 fu 0 u0
def F_X8_checkCode_243 (k143 : Int32 → Int32 → St → Option St) (x1 : Int32) (x2 : Int32) (x3 : Int32) (t0 : Int32) (t1 : Int32) (u0 : St) : Option St := b1 (F_X8_note t1 t0 u0) fun u2 => (b1 (F_X8_two (x3 + 5) u2) fun r4 => (b1 (F_X8_isBegin x1 r4 u2) fun r6 => (b1 (F_X8_note (x3 + 5) r6 u2) fun u8 => (nm (x2 + 1) fun v9 => (k143 x1 v9 u8)))))
def F_X8_checkCode_238 (k143 : Int32 → Int32 → St → Option St) (x1 : Int32) (x2 : Int32) (x3 : Int32) (t0 : Int32) (u0 : St) : Option St := F_X8_checkCode_243 k143 x1 x2 x3 1 t0 u0
def F_X8_checkCode_200 (k143 : Int32 → Int32 → St → Option St) (x1 : Int32) (x2 : Int32) (x3 : Int32) (t0 : Int32) (t1 : Int32) (u0 : St) : Option St := b1 (F_X8_note t1 t0 u0) fun u2 => (b1 (F_X8_two (x3 + 2) u2) fun r4 => (b1 (F_X8_isBegin x1 r4 u2) fun r6 => (if r6 = 0 then (b1 (F_X8_two (x3 + 2) u2) fun r9 => (ix 64 x1 (if r9 = (u2 17 (x1).toNatClampNeg) then (F_X8_checkCode_238 k143 x1 x2 x3 (x3 + 2) u2) else (F_X8_checkCode_243 k143 x1 x2 x3 0 (x3 + 2) u2)))) else (F_X8_checkCode_238 k143 x1 x2 x3 (x3 + 2) u2))))
def F_X8_checkCode_199 (k143 : Int32 → Int32 → St → Option St) (x1 : Int32) (x2 : Int32) (x3 : Int32) (t0 : Int32) (u0 : St) : Option St := F_X8_checkCode_200 k143 x1 x2 x3 0 t0 u0
def F_X8_checkCode_143 : Nat → Int32 → Int32 → St → Option St
  | 0, _, _, _ => none
  | n + 1, x1, x2, u0 => ix 64 x1 (if (u0 18 (x1).toNatClampNeg) ≤ x2 then (some u0) else (ix 64 x1 (nm (((u0 19 (x1).toNatClampNeg) + (7 * x2))) fun v4 => (b1 (F_X8_two v4 u0) fun r6 => (b1 (F_X8_isBegin x1 r6 u0) fun r8 => (if r8 = 0 then (F_X8_checkCode_199 (F_X8_checkCode_143 n) x1 x2 v4 v4 u0) else (b1 (F_X8_two v4 u0) fun r11 => (b1 (F_X8_two (v4 + 2) u0) fun r13 => (if r13 ≤ r11 then (F_X8_checkCode_199 (F_X8_checkCode_143 n) x1 x2 v4 v4 u0) else (F_X8_checkCode_200 (F_X8_checkCode_143 n) x1 x2 v4 1 v4 u0))))))))))
def F_X8_checkCode_135 (k7 : Int32 → Int32 → St → Option St) (x1 : Int32) (x2 : Int32) (u0 : St) : Option St := nm (x2 + 1) fun v1 => (k7 x1 v1 u0)
def F_X8_checkCode_132 (k7 : Int32 → Int32 → St → Option St) (x1 : Int32) (x2 : Int32) (t0 : Int32) (t1 : Int32) (u0 : St) : Option St := b1 (F_X8_note t1 t0 u0) fun u2 => (F_X8_checkCode_135 k7 x1 x2 u2)
def F_X8_checkCode_102 (k7 : Int32 → Int32 → St → Option St) (x1 : Int32) (x2 : Int32) (x3 : Int32) (u0 : St) : Option St := if x3 = 35 then (ix 8000 (x2 + 1) (if (u0 0 15) ≤ (u0 2 ((x2 + 1)).toNatClampNeg) then (F_X8_checkCode_132 k7 x1 x2 0 (x2 + 1) u0) else (F_X8_checkCode_132 k7 x1 x2 1 (x2 + 1) u0))) else (F_X8_checkCode_135 k7 x1 x2 u0)
def F_X8_checkCode_77 (k7 : Int32 → Int32 → St → Option St) (x1 : Int32) (x2 : Int32) (x3 : Int32) (t0 : Int32) (u0 : St) : Option St := if t0 = (-1) then (F_X8_checkCode_102 k7 x1 x2 x3 u0) else (b1 (F_X8_two t0 u0) fun r3 => (b1 (F_X8_isBegin x1 r3 u0) fun r5 => (b1 (F_X8_note t0 r5 u0) fun u7 => (F_X8_checkCode_102 k7 x1 x2 x3 u7))))
def F_X8_checkCode_52 (k7 : Int32 → Int32 → St → Option St) (x1 : Int32) (x2 : Int32) (x3 : Int32) (u0 : St) : Option St := F_X8_checkCode_77 k7 x1 x2 x3 (x2 + 2) u0
def F_X8_checkCode_76 (k7 : Int32 → Int32 → St → Option St) (x1 : Int32) (x2 : Int32) (x3 : Int32) (u0 : St) : Option St := F_X8_checkCode_77 k7 x1 x2 x3 (-1) u0
def F_X8_checkCode_7 : Nat → Int32 → Int32 → St → Option St
  | 0, _, _, _ => none
  | n + 1, x1, x2, u0 => ix 64 x1 (ix 64 x1 (if ((u0 16 (x1).toNatClampNeg) + (u0 17 (x1).toNatClampNeg)) ≤ x2 then (F_X8_checkCode_143 fu x1 0 u0) else (ix 8000 x2 (if (u0 3 (x2).toNatClampNeg) = 0 then (F_X8_checkCode_135 (F_X8_checkCode_7 n) x1 x2 u0) else (ix 8000 x2 (nm ((u0 2 (x2).toNatClampNeg)) fun v7 => (if v7 = 19 then (F_X8_checkCode_52 (F_X8_checkCode_7 n) x1 x2 v7 u0) else (if v7 = 20 then (F_X8_checkCode_52 (F_X8_checkCode_7 n) x1 x2 v7 u0) else (if v7 < 21 then (F_X8_checkCode_76 (F_X8_checkCode_7 n) x1 x2 v7 u0) else (if 25 < v7 then (F_X8_checkCode_76 (F_X8_checkCode_7 n) x1 x2 v7 u0) else (F_X8_checkCode_77 (F_X8_checkCode_7 n) x1 x2 v7 (x2 + 1) u0)))))))))))
def F_X8_checkCode (x1 : Int32) (u0 : St) : Option St := ix 64 x1 (nm ((u0 16 (x1).toNatClampNeg)) fun v2 => (F_X8_checkCode_7 fu x1 v2 u0))
def F_X8_end_12 (u0 : St) : Option (Int32 × St) := nm (st u0 0 1 0) fun u1 => (some ((-1), u1))
def F_X8_end_126 (t0 : Int32) (u0 : St) : Option (Int32 × St) := bo t0 (nm (st u0 0 7 t0) fun u2 => (if (u2 0 7) = 0 then (some (((-3) - (u2 0 6)), u2)) else (some ((u2 0 26), u2))))
def F_X8_end_113 (u0 : St) : Option (Int32 × St) := if 0 ≤ (u0 0 6) then (F_X8_end_126 0 u0) else (F_X8_end_126 1 u0)
def F_X8_end_94 : Nat → Int32 → St → Option (Int32 × St)
  | 0, _, _ => none
  | n + 1, x2, u0 => if (u0 0 15) ≤ x2 then (F_X8_end_113 u0) else (b1 (F_X8_checkCode x2 u0) fun u3 => (nm (x2 + 1) fun v4 => (F_X8_end_94 n v4 u3)))
def F_X8_end_26 : Nat → Int32 → Int32 → St → Option (Int32 × St)
  | 0, _, _, _ => none
  | n + 1, x1, x2, u0 => if x1 ≤ x2 then (nm (st u0 0 1 0) fun u2 => (nm (st u2 0 5 0) fun u3 => (nm (st u3 0 6 (-1)) fun u4 => (nm (st u4 0 26 0) fun u5 => (nm (st u5 0 7 0) fun u6 => (b2 (F_X8_readAll u6) fun r8 u9 => (if r8 = 0 then (F_X8_end_113 u9) else (b1 (F_X8_checkSlots u9) fun u12 => (F_X8_end_94 fu 0 u12))))))))) else (ix 8000 x2 (ix 8000 x2 (nm (st u0 2 (x2).toNatClampNeg (u0 1 (x2).toNatClampNeg)) fun u15 => (ix 8000 x2 (nm (st u15 3 (x2).toNatClampNeg 0) fun u17 => (nm (x2 + 1) fun v18 => (F_X8_end_26 n x1 v18 u17)))))))
def F_X8_end (x1 : Int32) (u0 : St) : Option (Int32 × St) := if x1 < 0 then (F_X8_end_12 u0) else (if x1 ≤ (u0 0 1) then (nm (st u0 0 4 x1) fun u3 => (F_X8_end_26 fu x1 0 u3)) else (F_X8_end_12 u0))
def F_X8_count (x1 : Int32) (u0 : St) : Option Int32 := if x1 < 0 then (some (-1)) else (if x1 ≤ 3 then (if (u0 0 7) = 0 then (if x1 = 3 then (some (-1)) else (some 0)) else (if x1 = 0 then (some (u0 0 8)) else (if x1 = 1 then (some (u0 0 15)) else (if x1 = 2 then (some (u0 0 26)) else (some (u0 0 27)))))) else (some (-1)))
def F_X8_isClass (x1 : Int32) (u0 : St) : Option Int32 := if (u0 0 7) = 0 then (some 0) else (if x1 < 0 then (some 0) else (if (u0 0 8) ≤ x1 then (some 0) else (some 1)))
def F_X8_isMethod (x1 : Int32) (u0 : St) : Option Int32 := if (u0 0 7) = 0 then (some 0) else (if x1 < 0 then (some 0) else (if (u0 0 15) ≤ x1 then (some 0) else (some 1)))
def F_X8_classOf (x1 : Int32) (x2 : Int32) (x3 : Int32) (u0 : St) : Option Int32 := b1 (F_X8_isClass x1 u0) fun r2 => (if r2 = 0 then (some (-1)) else (if x2 = 0 then (ix 32 x1 (some (u0 4 (x1).toNatClampNeg))) else (if x2 = 1 then (ix 32 x1 (some (u0 5 (x1).toNatClampNeg))) else (if x2 = 2 then (if x3 < 0 then (some (-1)) else (ix 32 x1 (if (u0 5 (x1).toNatClampNeg) ≤ x3 then (some (-1)) else (ix 480 ((15 * x1) + x3) (some (u0 6 (((15 * x1) + x3)).toNatClampNeg)))))) else (if x2 = 3 then (if x3 < 0 then (some (-1)) else (if 16 ≤ x3 then (some (-1)) else (ix 512 ((16 * x1) + x3) (some (u0 7 (((16 * x1) + x3)).toNatClampNeg))))) else (some (-1)))))))
def F_X8_isA_39 (x2 : Int32) (x3 : Int32) (u0 : St) : Option Int32 := if x3 = x2 then (some 1) else (some 0)
def F_X8_isA_20 : Nat → Int32 → Int32 → St → Option Int32
  | 0, _, _, _ => none
  | n + 1, x2, x3, u0 => if x3 < 0 then (F_X8_isA_39 x2 x3 u0) else (if x3 = x2 then (F_X8_isA_39 x2 x3 u0) else (ix 32 x3 (nm ((u0 4 (x3).toNatClampNeg)) fun v4 => (F_X8_isA_20 n x2 v4 u0))))
def F_X8_isA (x1 : Int32) (x2 : Int32) (u0 : St) : Option Int32 := b1 (F_X8_isClass x1 u0) fun r2 => (if r2 = 0 then (some 0) else (b1 (F_X8_isClass x2 u0) fun r5 => (if r5 = 0 then (some 0) else (F_X8_isA_20 fu x2 x1 u0))))
def F_X8_counted_44 (k5 : Int32 → Int32 → Int32 → Int32 → St → Option Int32) (x1 : Int32) (x2 : Int32) (x3 : Int32) (x4 : Int32) (u0 : St) : Option Int32 := nm (x4 + 1) fun v1 => (k5 x1 x2 x3 v1 u0)
def F_X8_counted_5 : Nat → Int32 → Int32 → Int32 → Int32 → St → Option Int32
  | 0, _, _, _, _, _ => none
  | n + 1, x1, x2, x3, x4, u0 => ix 64 x1 (if (u0 17 (x1).toNatClampNeg) ≤ x4 then (if x2 = (-1) then (some x3) else (some (-1))) else (ix 64 x1 (ix 8000 ((u0 16 (x1).toNatClampNeg) + x4) (if (u0 3 (((u0 16 (x1).toNatClampNeg) + x4)).toNatClampNeg) = 0 then (F_X8_counted_44 (F_X8_counted_5 n) x1 x2 x3 x4 u0) else (if x3 = x2 then (some x4) else (nm (x3 + 1) fun v8 => (F_X8_counted_44 (F_X8_counted_5 n) x1 x2 v8 x4 u0)))))))
def F_X8_counted (x1 : Int32) (x2 : Int32) (u0 : St) : Option Int32 := F_X8_counted_5 fu x1 x2 0 0 u0
def F_X8_method (x1 : Int32) (x2 : Int32) (x3 : Int32) (u0 : St) : Option Int32 := b1 (F_X8_isMethod x1 u0) fun r2 => (if r2 = 0 then (some (-1)) else (if x2 = 0 then (ix 64 x1 (some (u0 10 (x1).toNatClampNeg))) else (if x2 = 1 then (ix 64 x1 (some (u0 11 (x1).toNatClampNeg))) else (if x2 = 2 then (if x3 < 0 then (some (-1)) else (ix 64 x1 (if (u0 11 (x1).toNatClampNeg) ≤ x3 then (some (-1)) else (ix 512 ((8 * x1) + x3) (some (u0 12 (((8 * x1) + x3)).toNatClampNeg)))))) else (if x2 = 3 then (ix 64 x1 (some (u0 13 (x1).toNatClampNeg))) else (if x2 = 4 then (ix 64 x1 (some (u0 14 (x1).toNatClampNeg))) else (if x2 = 5 then (ix 64 x1 (some (u0 15 (x1).toNatClampNeg))) else (if x2 = 6 then (ix 64 x1 (some (u0 17 (x1).toNatClampNeg))) else (if x2 = 7 then (b1 (F_X8_counted x1 (-1) u0) fun r23 => (some r23)) else (if x2 = 8 then (if x3 < 0 then (some (-1)) else (b1 (F_X8_counted x1 x3 u0) fun r27 => (some r27))) else (if x2 = 9 then (ix 64 x1 (some (u0 18 (x1).toNatClampNeg))) else (some (-1)))))))))))))
def F_X8_handler (x1 : Int32) (x2 : Int32) (x3 : Int32) (u0 : St) : Option Int32 := b1 (F_X8_isMethod x1 u0) fun r2 => (if r2 = 0 then (some (-1)) else (if x2 < 0 then (some (-1)) else (ix 64 x1 (if x2 < (u0 18 (x1).toNatClampNeg) then (ix 64 x1 (nm (((u0 19 (x1).toNatClampNeg) + (7 * x2))) fun v8 => (if x3 = 0 then (b1 (F_X8_two v8 u0) fun r19 => (some r19)) else (if x3 = 1 then (b1 (F_X8_two (v8 + 2) u0) fun r17 => (some r17)) else (if x3 = 2 then (ix 8000 (v8 + 4) (some (u0 2 ((v8 + 4)).toNatClampNeg))) else (if x3 = 3 then (b1 (F_X8_two (v8 + 5) u0) fun r14 => (some r14)) else (some (-1)))))))) else (some (-1))))))
def F_X8_instruction_124 (x3 : Int32) (x4 : Int32) (u0 : St) : Option Int32 := if x3 = 1 then (ix 8000 (x4 + 1) (some (u0 2 ((x4 + 1)).toNatClampNeg))) else (b1 (F_X8_two (x4 + 2) u0) fun r3 => (some r3))
def F_X8_instruction_182 (x3 : Int32) (x4 : Int32) (x6 : Int32) (u0 : St) : Option Int32 := if x6 ≤ x3 then (some 0) else (ix 8000 (x4 + x3) (some (u0 2 ((x4 + x3)).toNatClampNeg)))
def F_X8_instruction (x1 : Int32) (x2 : Int32) (x3 : Int32) (u0 : St) : Option Int32 := b1 (F_X8_isMethod x1 u0) fun r2 => (if r2 = 0 then (some (-1)) else (if x2 < 0 then (some (-1)) else (b1 (F_X8_isBegin x1 x2 u0) fun r6 => (if r6 = 0 then (some (-1)) else (if x3 < 0 then (some (-1)) else (if x3 ≤ 3 then (ix 64 x1 (nm (((u0 16 (x1).toNatClampNeg) + x2)) fun v11 => (ix 8000 v11 (nm ((u0 2 (v11).toNatClampNeg)) fun v13 => (b1 (F_X8_wide v13 u0) fun r15 => (if x3 = 0 then (some v13) else (if x3 = 3 then (some (x2 + r15)) else (if v13 = 0 then (if x3 = 1 then (b1 (F_X8_two (v11 + 1) u0) fun r28 => (b1 (F_X8_two (v11 + 3) u0) fun r30 => (some ((r28 <<< (16 &&& 31)) ||| r30)))) else (some 0)) else (if v13 = 19 then (F_X8_instruction_124 x3 v11 u0) else (if v13 = 20 then (F_X8_instruction_124 x3 v11 u0) else (if v13 < 21 then (F_X8_instruction_182 x3 v11 r15 u0) else (if 25 < v13 then (F_X8_instruction_182 x3 v11 r15 u0) else (if x3 = 1 then (b1 (F_X8_two (v11 + 1) u0) fun r25 => (some r25)) else (some 0)))))))))))))) else (some (-1))))))))
def F_X8_thrown (x1 : Int32) (u0 : St) : Option Int32 := if (u0 0 7) = 0 then (some (-1)) else (if x1 < 0 then (some (-1)) else (if 5 ≤ x1 then (some (-1)) else (ix 5 x1 (some (u0 9 (x1).toNatClampNeg)))))
end
section
abbrev rmX6_add : Room := { frames := 0, cells := 0, slots := 0, locals := 0 }
theorem hiX6_add_X6 : ∀ w ∈ wsX60, w ∈ wsX6_add := by decide +kernel
set_option maxHeartbeats 4000000 in
set_option maxRecDepth 100000 in
theorem c_X6_add (l : Launch) (D : va_G) (cI cZ : ClassId) (z : Nat → Nat) (base : Nat) (a : Nat → Nat) (x1 : Int32) (x2 : Int32) (x3 : Int32) (x4 : Int32) (x5 : Int32) (u0 : St) (ro : Int32) (uo : St) (h : F_X6_add x1 x2 x3 x4 x5 u0 = some (ro, uo)) : MI l D [(cI, .int), (cZ, .boolean)] z base yX6_add wsX6_add rmX6_add [.ref (a 1), .int x1, .int x2, .int x3, .int x4, .int x5] (XW cI cZ a u0) ro (XW cI cZ a uo) := by
  refine MI.ofZ (own := RX6) (cc := cX6_add) (maxL := 6) (by decide) rfl rfl (Nat.le_of_ble_eq_true rfl) ?_
  intro p e s m args below meth c A Q ls C hl hw hQ
  have hx := C.1.1
  have hb := C.1.2.1
  have hl : lv_has ls 6 [(0, .ref (a 1)), (1, .int x1), (2, .int x2), (3, .int x3), (4, .int x4), (5, .int x5)] := hl
  rw [F_X6_add] at h
  refine lv_aload_n hx hb dX6_add_0 rfl (lv_at hl 0 rfl) ?_
  refine r_get C hw hiX6_add_X6 1 (XWa_1 cI cZ a u0) rfl 1 (by decide) (by decide +kernel) rfl dX6_add_1 ?_
  refine lv_if_lt (tgt := 21) hx hb dX6_add_4 (by decide) (fun c1 => ?_) (fun c1 => ?_)
  · have h := itT c1 h
    refine lv_iconst (v := 0) hx hb dX6_add_21 (by decide) ?_
    exact r_zret (f := XW cI cZ a) hQ (by decide) h hw dX6_add_22
  · have h := itF c1 h
    refine lv_aload_n hx hb dX6_add_7 rfl (lv_at hl 0 rfl) ?_
    refine r_get C hw hiX6_add_X6 1 (XWa_1 cI cZ a u0) rfl 1 (by decide) (by decide +kernel) rfl dX6_add_8 ?_
    refine lv_aload_n hx hb dX6_add_11 rfl (lv_at hl 0 rfl) ?_
    refine r_get C hw hiX6_add_X6 1 (XWa_1 cI cZ a u0) rfl 0 (by decide) (by decide +kernel) rfl dX6_add_12 ?_
    refine r_alen (v := 2000) C hw 7 0 (XWa_7 cI cZ a u0) rfl rfl dX6_add_15 ?_
    refine lv_iconst (v := 5) hx hb dX6_add_16 (by decide) ?_
    refine lv_isub hx hb dX6_add_17 ?_
    refine lv_icmp_le (tgt := 23) hx hb dX6_add_18 (by decide) (fun c2 => ?_) (fun c2 => ?_)
    · have h := itT c2 h
      refine lv_aload_n hx hb dX6_add_23 rfl (lv_at hl 0 rfl) ?_
      refine r_get C hw hiX6_add_X6 1 (XWa_1 cI cZ a u0) rfl 0 (by decide) (by decide +kernel) rfl dX6_add_24 ?_
      refine lv_aload_n hx hb dX6_add_27 rfl (lv_at hl 0 rfl) ?_
      refine r_get C hw hiX6_add_X6 1 (XWa_1 cI cZ a u0) rfl 1 (by decide) (by decide +kernel) rfl dX6_add_28 ?_
      refine lv_iload_n hx hb dX6_add_31 rfl (lv_at hl 1 rfl) ?_
      obtain ⟨g3, h⟩ := ixE h
      obtain ⟨u4, eu4⟩ : ∃ y : St, y = st u0 7 ((u0 1 1)).toNatClampNeg x1 := ⟨_, rfl⟩
      have h := nmE eu4 h
      refine r_ast (ws' := (XW cI cZ a u4)) C hw 7 0 (XWa_7 cI cZ a u0) rfl g3 (by rw [eu4]; exact XWs_7 cI cZ a u0 _ x1) dX6_add_32 (fun H locs hw => ?_)
      refine lv_aload_n hx hb dX6_add_33 rfl (lv_at hl 0 rfl) ?_
      refine r_get C hw hiX6_add_X6 1 (XWa_1 cI cZ a u4) rfl 0 (by decide) (by decide +kernel) rfl dX6_add_34 ?_
      refine lv_aload_n hx hb dX6_add_37 rfl (lv_at hl 0 rfl) ?_
      refine r_get C hw hiX6_add_X6 1 (XWa_1 cI cZ a u4) rfl 1 (by decide) (by decide +kernel) rfl dX6_add_38 ?_
      refine lv_iconst (v := 1) hx hb dX6_add_41 (by decide) ?_
      refine lv_iadd hx hb dX6_add_42 ?_
      refine lv_iload_n hx hb dX6_add_43 rfl (lv_at hl 2 rfl) ?_
      obtain ⟨g5, h⟩ := ixE h
      obtain ⟨u6, eu6⟩ : ∃ y : St, y = st u4 7 (((u4 1 1) + 1)).toNatClampNeg x2 := ⟨_, rfl⟩
      have h := nmE eu6 h
      refine r_ast (ws' := (XW cI cZ a u6)) C hw 7 0 (XWa_7 cI cZ a u4) rfl g5 (by rw [eu6]; exact XWs_7 cI cZ a u4 _ x2) dX6_add_44 (fun H locs hw => ?_)
      refine lv_aload_n hx hb dX6_add_45 rfl (lv_at hl 0 rfl) ?_
      refine r_get C hw hiX6_add_X6 1 (XWa_1 cI cZ a u6) rfl 0 (by decide) (by decide +kernel) rfl dX6_add_46 ?_
      refine lv_aload_n hx hb dX6_add_49 rfl (lv_at hl 0 rfl) ?_
      refine r_get C hw hiX6_add_X6 1 (XWa_1 cI cZ a u6) rfl 1 (by decide) (by decide +kernel) rfl dX6_add_50 ?_
      refine lv_iconst (v := 2) hx hb dX6_add_53 (by decide) ?_
      refine lv_iadd hx hb dX6_add_54 ?_
      refine lv_iload_n hx hb dX6_add_55 rfl (lv_at hl 3 rfl) ?_
      obtain ⟨g7, h⟩ := ixE h
      obtain ⟨u8, eu8⟩ : ∃ y : St, y = st u6 7 (((u6 1 1) + 2)).toNatClampNeg x3 := ⟨_, rfl⟩
      have h := nmE eu8 h
      refine r_ast (ws' := (XW cI cZ a u8)) C hw 7 0 (XWa_7 cI cZ a u6) rfl g7 (by rw [eu8]; exact XWs_7 cI cZ a u6 _ x3) dX6_add_56 (fun H locs hw => ?_)
      refine lv_aload_n hx hb dX6_add_57 rfl (lv_at hl 0 rfl) ?_
      refine r_get C hw hiX6_add_X6 1 (XWa_1 cI cZ a u8) rfl 0 (by decide) (by decide +kernel) rfl dX6_add_58 ?_
      refine lv_aload_n hx hb dX6_add_61 rfl (lv_at hl 0 rfl) ?_
      refine r_get C hw hiX6_add_X6 1 (XWa_1 cI cZ a u8) rfl 1 (by decide) (by decide +kernel) rfl dX6_add_62 ?_
      refine lv_iconst (v := 3) hx hb dX6_add_65 (by decide) ?_
      refine lv_iadd hx hb dX6_add_66 ?_
      refine lv_iload hx hb dX6_add_67 (lv_at hl 4 rfl) ?_
      obtain ⟨g9, h⟩ := ixE h
      obtain ⟨u10, eu10⟩ : ∃ y : St, y = st u8 7 (((u8 1 1) + 3)).toNatClampNeg x4 := ⟨_, rfl⟩
      have h := nmE eu10 h
      refine r_ast (ws' := (XW cI cZ a u10)) C hw 7 0 (XWa_7 cI cZ a u8) rfl g9 (by rw [eu10]; exact XWs_7 cI cZ a u8 _ x4) dX6_add_69 (fun H locs hw => ?_)
      refine lv_aload_n hx hb dX6_add_70 rfl (lv_at hl 0 rfl) ?_
      refine r_get C hw hiX6_add_X6 1 (XWa_1 cI cZ a u10) rfl 0 (by decide) (by decide +kernel) rfl dX6_add_71 ?_
      refine lv_aload_n hx hb dX6_add_74 rfl (lv_at hl 0 rfl) ?_
      refine r_get C hw hiX6_add_X6 1 (XWa_1 cI cZ a u10) rfl 1 (by decide) (by decide +kernel) rfl dX6_add_75 ?_
      refine lv_iconst (v := 4) hx hb dX6_add_78 (by decide) ?_
      refine lv_iadd hx hb dX6_add_79 ?_
      refine lv_iload hx hb dX6_add_80 (lv_at hl 5 rfl) ?_
      obtain ⟨g11, h⟩ := ixE h
      obtain ⟨u12, eu12⟩ : ∃ y : St, y = st u10 7 (((u10 1 1) + 4)).toNatClampNeg x5 := ⟨_, rfl⟩
      have h := nmE eu12 h
      refine r_ast (ws' := (XW cI cZ a u12)) C hw 7 0 (XWa_7 cI cZ a u10) rfl g11 (by rw [eu12]; exact XWs_7 cI cZ a u10 _ x5) dX6_add_82 (fun H locs hw => ?_)
      refine lv_aload_n hx hb dX6_add_83 rfl (lv_at hl 0 rfl) ?_
      refine lv_dup hx hb dX6_add_84 rfl ?_
      refine r_get C hw hiX6_add_X6 1 (XWa_1 cI cZ a u12) rfl 1 (by decide) (by decide +kernel) rfl dX6_add_85 ?_
      refine lv_iconst (v := 5) hx hb dX6_add_88 (by decide) ?_
      refine lv_iadd hx hb dX6_add_89 ?_
      obtain ⟨u13, eu13⟩ : ∃ y : St, y = st u12 1 1 ((u12 1 1) + 5) := ⟨_, rfl⟩
      have h := nmE eu13 h
      refine r_put (ws' := (XW cI cZ a u13)) C hw hiX6_add_X6 tyX6 tyX6_ok nmX6 1 (XWa_1 cI cZ a u12) rfl 1 (by decide) (by decide +kernel) rfl (ty := .int) (by decide +kernel) rfl rfl (Nat.le_of_ble_eq_true rfl) (by rw [eu13]; exact XWs_1_1 cI cZ a u12 ((u12 1 1) + 5)) dX6_add_90 (fun H locs hw => ?_)
      refine lv_iconst (v := 1) hx hb dX6_add_93 (by decide) ?_
      exact r_zret (f := XW cI cZ a) hQ (by decide) h hw dX6_add_94
    · have h := itF c2 h
      refine lv_iconst (v := 0) hx hb dX6_add_21 (by decide) ?_
      exact r_zret (f := XW cI cZ a) hQ (by decide) h hw dX6_add_22
abbrev rmX6_length : Room := { frames := 0, cells := 0, slots := 0, locals := 0 }
theorem hiX6_length_X6 : ∀ w ∈ wsX60, w ∈ wsX6_length := by decide +kernel
set_option maxHeartbeats 4000000 in
set_option maxRecDepth 100000 in
theorem c_X6_length (l : Launch) (D : va_G) (cI cZ : ClassId) (z : Nat → Nat) (base : Nat) (a : Nat → Nat) (u0 : St) (ro : Int32) (h : F_X6_length u0 = some ro) : MI l D [(cI, .int), (cZ, .boolean)] z base yX6_length wsX6_length rmX6_length [.ref (a 1)] (XW cI cZ a u0) ro (XW cI cZ a u0) := by
  refine MI.ofI (own := RX6) (cc := cX6_length) (maxL := 1) (by decide) rfl rfl (Nat.le_of_ble_eq_true rfl) ?_
  intro p e s m args below meth c A Q ls C hl hw hQ
  have hx := C.1.1
  have hb := C.1.2.1
  have hl : lv_has ls 1 [(0, .ref (a 1))] := hl
  rw [F_X6_length] at h
  refine lv_aload_n hx hb dX6_length_0 rfl (lv_at hl 0 rfl) ?_
  refine r_get C hw hiX6_length_X6 1 (XWa_1 cI cZ a u0) rfl 1 (by decide) (by decide +kernel) rfl dX6_length_1 ?_
  refine lv_iconst (v := 4) hx hb dX6_length_4 (by decide) ?_
  refine lv_imul hx hb dX6_length_5 ?_
  exact r_iretP hQ h hw dX6_length_6
abbrev rmX7_feed : Room := { frames := 1, cells := 0, slots := 0, locals := 25 }
theorem hiX7_feed_X7 : ∀ w ∈ wsX70, w ∈ wsX7_feed := by decide +kernel
set_option maxHeartbeats 4000000 in
set_option maxRecDepth 100000 in
theorem c_X7_feed (l : Launch) (D : va_G) (cI cZ : ClassId) (z : Nat → Nat) (base : Nat) (a : Nat → Nat) (x1 : Int32) (x2 : Int32) (x3 : Int32) (x4 : Int32) (x5 : Int32) (u0 : St) (ro : Int32) (uo : St) (h : F_X7_feed x1 x2 x3 x4 x5 u0 = some (ro, uo)) : MI l D [(cI, .int), (cZ, .boolean)] z base yX7_feed wsX7_feed rmX7_feed [.ref (a 0), .int x1, .int x2, .int x3, .int x4, .int x5] (XW cI cZ a u0) ro (XW cI cZ a uo) := by
  refine MI.ofI (own := RX7) (cc := cX7_feed) (maxL := 6) (by decide) rfl rfl (Nat.le_of_ble_eq_true rfl) ?_
  intro p e s m args below meth c A Q ls C hl hw hQ
  have hx := C.1.1
  have hb := C.1.2.1
  have hl : lv_has ls 6 [(0, .ref (a 0)), (1, .int x1), (2, .int x2), (3, .int x3), (4, .int x4), (5, .int x5)] := hl
  rw [F_X7_feed] at h
  refine lv_aload_n hx hb dX7_feed_0 rfl (lv_at hl 0 rfl) ?_
  refine r_get C hw hiX7_feed_X7 0 (XWa_0 cI cZ a u0) rfl 0 (by decide) (by decide +kernel) rfl dX7_feed_1 ?_
  refine lv_iload_n hx hb dX7_feed_4 rfl (lv_at hl 1 rfl) ?_
  refine lv_iload_n hx hb dX7_feed_5 rfl (lv_at hl 2 rfl) ?_
  refine lv_iload_n hx hb dX7_feed_6 rfl (lv_at hl 3 rfl) ?_
  refine lv_iload hx hb dX7_feed_7 (lv_at hl 4 rfl) ?_
  refine lv_iload hx hb dX7_feed_9 (lv_at hl 5 rfl) ?_
  obtain ⟨r2, u3, h1, h⟩ := b2E h
  refine r_callV (rest := []) C hw (c_X6_add l D cI cZ z base a x1 x2 x3 x4 x5 u0 r2 u3 h1) (cwV 5 C.1.2.2.2.2 gX7_feed_X6_add rfl rfl rfl (by decide +kernel) ⟨Nat.le_of_ble_eq_true rfl, Nat.le_of_ble_eq_true rfl⟩) (va_recv C.2.1 hw.1 (ci := 5) (q0 := 1) rfl (XWa_1 cI cZ a u0)) rfl hl.1 rfl (Nat.le_of_ble_eq_true rfl) dX7_feed_11 ⟨Nat.zero_le _, Nat.zero_le _⟩ (fun H locs hw => ?_)
  refine lv_if_eq (tgt := 27) hx hb dX7_feed_14 (by decide) (fun c4 => ?_) (fun c4 => ?_)
  · have h := itT c4 h
    refine lv_bipush (v := (-2)) hx hb dX7_feed_27 (by decide) ?_
    exact r_iret (f := XW cI cZ a) hQ h hw dX7_feed_29
  · have h := itF c4 h
    refine lv_aload_n hx hb dX7_feed_17 rfl (lv_at hl 0 rfl) ?_
    refine r_get C hw hiX7_feed_X7 0 (XWa_0 cI cZ a u3) rfl 0 (by decide) (by decide +kernel) rfl dX7_feed_18 ?_
    obtain ⟨r6, h5, h⟩ := b1E h
    refine r_callV (rest := []) C hw (c_X6_length l D cI cZ z base a u3 r6 h5) (cwV 0 C.1.2.2.2.2 gX7_feed_X6_length rfl rfl rfl (by decide +kernel) ⟨Nat.le_of_ble_eq_true rfl, Nat.le_of_ble_eq_true rfl⟩) (va_recv C.2.1 hw.1 (ci := 5) (q0 := 1) rfl (XWa_1 cI cZ a u3)) rfl hl.1 rfl (Nat.le_of_ble_eq_true rfl) dX7_feed_21 ⟨Nat.zero_le _, Nat.zero_le _⟩ (fun H locs hw => ?_)
    refine lv_goto (tgt := 29) hx hb dX7_feed_24 (by decide) ?_
    exact r_iret (f := XW cI cZ a) hQ h hw dX7_feed_29
abbrev rmX6_clear : Room := { frames := 0, cells := 0, slots := 0, locals := 0 }
theorem hiX6_clear_X6 : ∀ w ∈ wsX60, w ∈ wsX6_clear := by decide +kernel
set_option maxHeartbeats 4000000 in
set_option maxRecDepth 100000 in
theorem c_X6_clear (l : Launch) (D : va_G) (cI cZ : ClassId) (z : Nat → Nat) (base : Nat) (a : Nat → Nat) (u0 : St) (uo : St) (h : F_X6_clear u0 = some uo) : MV l D [(cI, .int), (cZ, .boolean)] z base yX6_clear wsX6_clear rmX6_clear [.ref (a 1)] (XW cI cZ a u0) (XW cI cZ a uo) := by
  refine MV.of (own := RX6) (cc := cX6_clear) (maxL := 1) (by decide) rfl rfl (Nat.le_of_ble_eq_true rfl) ?_
  intro p e s m args below meth c A Q ls C hl hw hQ
  have hx := C.1.1
  have hb := C.1.2.1
  have hl : lv_has ls 1 [(0, .ref (a 1))] := hl
  rw [F_X6_clear] at h
  refine lv_aload_n hx hb dX6_clear_0 rfl (lv_at hl 0 rfl) ?_
  refine lv_iconst (v := 0) hx hb dX6_clear_1 (by decide) ?_
  obtain ⟨u1, eu1⟩ : ∃ y : St, y = st u0 1 1 0 := ⟨_, rfl⟩
  have h := nmE eu1 h
  refine r_put (ws' := (XW cI cZ a u1)) C hw hiX6_clear_X6 tyX6 tyX6_ok nmX6 1 (XWa_1 cI cZ a u0) rfl 1 (by decide) (by decide +kernel) rfl (ty := .int) (by decide +kernel) rfl rfl (Nat.le_of_ble_eq_true rfl) (by rw [eu1]; exact XWs_1_1 cI cZ a u0 0) dX6_clear_2 (fun H locs hw => ?_)
  exact r_vret (f := XW cI cZ a) hQ h hw dX6_clear_5
abbrev rmX5_byteAt : Room := { frames := 0, cells := 0, slots := 0, locals := 0 }
theorem hiX5_byteAt_X5 : ∀ w ∈ wsX50, w ∈ wsX5_byteAt := by decide +kernel
set_option maxHeartbeats 4000000 in
set_option maxRecDepth 100000 in
theorem c_X5_byteAt (l : Launch) (D : va_G) (cI cZ : ClassId) (z : Nat → Nat) (base : Nat) (a : Nat → Nat) (x1 : Int32) (u0 : St) (ro : Int32) (h : F_X5_byteAt x1 u0 = some ro) : MI l D [(cI, .int), (cZ, .boolean)] z base yX5_byteAt wsX5_byteAt rmX5_byteAt [.ref (a 2), .int x1] (XW cI cZ a u0) ro (XW cI cZ a u0) := by
  refine MI.ofI (own := RX5) (cc := cX5_byteAt) (maxL := 3) (by decide) rfl rfl (Nat.le_of_ble_eq_true rfl) ?_
  intro p e s m args below meth c A Q ls C hl hw hQ
  have hx := C.1.1
  have hb := C.1.2.1
  have hl : lv_has ls 3 [(0, .ref (a 2)), (1, .int x1)] := hl
  rw [F_X5_byteAt] at h
  refine lv_iload_n hx hb dX5_byteAt_0 rfl (lv_at hl 1 rfl) ?_
  refine lv_iconst (v := 2) hx hb dX5_byteAt_1 (by decide) ?_
  refine lv_ishr hx hb dX5_byteAt_2 ?_
  refine lv_topi (fun v1 ev1 => ?_)
  have h := nmE ev1 h
  refine lv_istore_n (lv' := [(2, .int v1), (0, .ref (a 2)), (1, .int x1)]) hx hb dX5_byteAt_3 rfl hl (by decide) rfl (fun ls hl => ?_)
  refine lv_iload_n hx hb dX5_byteAt_4 rfl (lv_at hl 2 rfl) ?_
  refine lv_if_lt (tgt := 25) hx hb dX5_byteAt_5 (by decide) (fun c2 => ?_) (fun c2 => ?_)
  · have h := itT c2 h
    refine lv_iconst (v := (-1)) hx hb dX5_byteAt_25 (by decide) ?_
    exact r_iretP hQ h hw dX5_byteAt_26
  · have h := itF c2 h
    refine lv_iload_n hx hb dX5_byteAt_8 rfl (lv_at hl 2 rfl) ?_
    refine lv_aload_n hx hb dX5_byteAt_9 rfl (lv_at hl 1 rfl) ?_
    refine r_get C hw hiX5_byteAt_X5 2 (XWa_2 cI cZ a u0) rfl 1 (by decide) (by decide +kernel) rfl dX5_byteAt_10 ?_
    refine lv_icmp_ge (tgt := 25) hx hb dX5_byteAt_13 (by decide) (fun c3 => ?_) (fun c3 => ?_)
    · have h := itT c3 h
      refine lv_iconst (v := (-1)) hx hb dX5_byteAt_25 (by decide) ?_
      exact r_iretP hQ h hw dX5_byteAt_26
    · have h := itF c3 h
      refine lv_iload_n hx hb dX5_byteAt_16 rfl (lv_at hl 0 rfl) ?_
      refine lv_aload_n hx hb dX5_byteAt_17 rfl (lv_at hl 1 rfl) ?_
      refine r_get C hw hiX5_byteAt_X5 2 (XWa_2 cI cZ a u0) rfl 0 (by decide) (by decide +kernel) rfl dX5_byteAt_18 ?_
      refine r_alen (v := 2000) C hw 8 0 (XWa_8 cI cZ a u0) rfl rfl dX5_byteAt_21 ?_
      refine lv_icmp_lt (tgt := 27) hx hb dX5_byteAt_22 (by decide) (fun c4 => ?_) (fun c4 => ?_)
      · have h := itT c4 h
        refine lv_aload_n hx hb dX5_byteAt_27 rfl (lv_at hl 1 rfl) ?_
        refine r_get C hw hiX5_byteAt_X5 2 (XWa_2 cI cZ a u0) rfl 0 (by decide) (by decide +kernel) rfl dX5_byteAt_28 ?_
        refine lv_iload_n hx hb dX5_byteAt_31 rfl (lv_at hl 0 rfl) ?_
        obtain ⟨g5, h⟩ := ixE h
        refine r_ald C hw 8 0 (XWa_8 cI cZ a u0) rfl g5 dX5_byteAt_32 ?_
        refine lv_bipush (v := 24) hx hb dX5_byteAt_33 (by decide) ?_
        refine lv_bipush (v := 8) hx hb dX5_byteAt_35 (by decide) ?_
        refine lv_iload_n hx hb dX5_byteAt_37 rfl (lv_at hl 2 rfl) ?_
        refine lv_iconst (v := 3) hx hb dX5_byteAt_38 (by decide) ?_
        refine lv_iand hx hb dX5_byteAt_39 ?_
        refine lv_imul hx hb dX5_byteAt_40 ?_
        refine lv_isub hx hb dX5_byteAt_41 ?_
        refine lv_iushr (v := ushr (u0 8 (v1).toNatClampNeg) (24 - (8 * (x1 &&& 3)))) hx hb dX5_byteAt_42 rfl ?_
        refine lv_sipush (v := 255) hx hb dX5_byteAt_43 (by decide) ?_
        refine lv_iand hx hb dX5_byteAt_46 ?_
        exact r_iretP hQ h hw dX5_byteAt_47
      · have h := itF c4 h
        refine lv_iconst (v := (-1)) hx hb dX5_byteAt_25 (by decide) ?_
        exact r_iretP hQ h hw dX5_byteAt_26
abbrev rmX5_number : Room := { frames := 1, cells := 0, slots := 0, locals := 22 }
theorem hiX5_number_X5 : ∀ w ∈ wsX50, w ∈ wsX5_number := by decide +kernel
set_option maxHeartbeats 4000000 in
set_option maxRecDepth 100000 in
theorem c_X5_number (l : Launch) (D : va_G) (cI cZ : ClassId) (z : Nat → Nat) (base : Nat) (a : Nat → Nat) (x1 : Int32) (x2 : Int32) (u0 : St) (ro : Int32) (uo : St) (h : F_X5_number x1 x2 u0 = some (ro, uo)) : MI l D [(cI, .int), (cZ, .boolean)] z base yX5_number wsX5_number rmX5_number [.ref (a 2), .int x1, .int x2] (XW cI cZ a u0) ro (XW cI cZ a uo) := by
  refine MI.ofI (own := RX5) (cc := cX5_number) (maxL := 4) (by decide) rfl rfl (Nat.le_of_ble_eq_true rfl) ?_
  intro p e s m args below meth c A Q ls C hl hw hQ
  have hx := C.1.1
  have hb := C.1.2.1
  have J31 : ∀ (u0 : St) (H : Heap) (locs : List Loc) (ls : Array Slot), F_X5_number_31 u0 = some (ro, uo) → Wd D A s.heap H locs (XW cI cZ a u0) → lv_has ls 4 [(0, .ref (a 2))] → W p l e rmX5_number s m args below meth c H locs 0 0 Q (F0 m 31 ls []) := by
    intro u0 H locs ls h hw hl
    rw [F_X5_number_31] at h
    refine lv_aload_n hx hb dX5_number_31 rfl (lv_at hl 0 rfl) ?_
    refine lv_iconst (v := 1) hx hb dX5_number_32 (by decide) ?_
    obtain ⟨u1, eu1⟩ : ∃ y : St, y = st u0 2 3 1 := ⟨_, rfl⟩
    have h := nmE eu1 h
    refine r_put (ws' := (XW cI cZ a u1)) C hw hiX5_number_X5 tyX5 tyX5_ok nmX5 2 (XWa_2 cI cZ a u0) rfl 3 (by decide) (by decide +kernel) rfl (ty := .boolean) (by decide +kernel) rfl rfl (Nat.le_of_ble_eq_true rfl) (by rw [eu1]; exact XWs_2_3 cI cZ a u0 1) dX5_number_33 (fun H locs hw => ?_)
    refine lv_iconst (v := (-1)) hx hb dX5_number_36 (by decide) ?_
    exact r_iret (f := XW cI cZ a) hQ h hw dX5_number_37
  have hl : lv_has ls 4 [(0, .ref (a 2)), (1, .int x1), (2, .int x2)] := hl
  rw [F_X5_number] at h
  refine lv_aload_n hx hb dX5_number_0 rfl (lv_at hl 0 rfl) ?_
  refine lv_aload_n hx hb dX5_number_1 rfl (lv_at hl 0 rfl) ?_
  refine r_get C hw hiX5_number_X5 2 (XWa_2 cI cZ a u0) rfl 2 (by decide) (by decide +kernel) rfl dX5_number_2 ?_
  obtain ⟨r2, h1, h⟩ := b1E h
  refine r_callV (rest := []) C hw (c_X5_byteAt l D cI cZ z base a (u0 2 2) u0 r2 h1) (cwV 1 C.1.2.2.2.2 gX5_number_X5_byteAt rfl rfl rfl (by decide +kernel) ⟨Nat.le_of_ble_eq_true rfl, Nat.le_of_ble_eq_true rfl⟩) (va_recv C.2.1 hw.1 (ci := 4) (q0 := 2) rfl (XWa_2 cI cZ a u0)) rfl hl.1 rfl (Nat.le_of_ble_eq_true rfl) dX5_number_5 ⟨Nat.zero_le _, Nat.zero_le _⟩ (fun H locs hw => ?_)
  refine lv_istore_n (lv' := [(3, .int r2), (0, .ref (a 2)), (1, .int x1), (2, .int x2)]) hx hb dX5_number_8 rfl hl (by decide) rfl (fun ls hl => ?_)
  refine lv_aload_n hx hb dX5_number_9 rfl (lv_at hl 1 rfl) ?_
  refine r_get C hw hiX5_number_X5 2 (XWa_2 cI cZ a u0) rfl 3 (by decide) (by decide +kernel) rfl dX5_number_10 ?_
  refine lv_if_ne (tgt := 31) hx hb dX5_number_13 (by decide) (fun c3 => ?_) (fun c3 => ?_)
  · have h := itF c3 h
    exact J31 u0 _ _ _ h hw (lv_sub hl [1] rfl)
  · have h := itT c3 h
    refine lv_iload_n hx hb dX5_number_16 rfl (lv_at hl 0 rfl) ?_
    refine lv_iconst (v := (-1)) hx hb dX5_number_17 (by decide) ?_
    refine lv_icmp_eq (tgt := 31) hx hb dX5_number_18 (by decide) (fun c4 => ?_) (fun c4 => ?_)
    · have h := itT c4 h
      exact J31 u0 _ _ _ h hw (lv_sub hl [1] rfl)
    · have h := itF c4 h
      refine lv_iload_n hx hb dX5_number_21 rfl (lv_at hl 0 rfl) ?_
      refine lv_iload_n hx hb dX5_number_22 rfl (lv_at hl 2 rfl) ?_
      refine lv_icmp_lt (tgt := 31) hx hb dX5_number_23 (by decide) (fun c5 => ?_) (fun c5 => ?_)
      · have h := itT c5 h
        exact J31 u0 _ _ _ h hw (lv_sub hl [1] rfl)
      · have h := itF c5 h
        refine lv_iload_n hx hb dX5_number_26 rfl (lv_at hl 0 rfl) ?_
        refine lv_iload_n hx hb dX5_number_27 rfl (lv_at hl 3 rfl) ?_
        refine lv_icmp_le (tgt := 38) hx hb dX5_number_28 (by decide) (fun c6 => ?_) (fun c6 => ?_)
        · have h := itT c6 h
          refine lv_aload_n hx hb dX5_number_38 rfl (lv_at hl 1 rfl) ?_
          refine lv_dup hx hb dX5_number_39 rfl ?_
          refine r_get C hw hiX5_number_X5 2 (XWa_2 cI cZ a u0) rfl 2 (by decide) (by decide +kernel) rfl dX5_number_40 ?_
          refine lv_iconst (v := 1) hx hb dX5_number_43 (by decide) ?_
          refine lv_iadd hx hb dX5_number_44 ?_
          obtain ⟨u7, eu7⟩ : ∃ y : St, y = st u0 2 2 ((u0 2 2) + 1) := ⟨_, rfl⟩
          have h := nmE eu7 h
          refine r_put (ws' := (XW cI cZ a u7)) C hw hiX5_number_X5 tyX5 tyX5_ok nmX5 2 (XWa_2 cI cZ a u0) rfl 2 (by decide) (by decide +kernel) rfl (ty := .int) (by decide +kernel) rfl rfl (Nat.le_of_ble_eq_true rfl) (by rw [eu7]; exact XWs_2_2 cI cZ a u0 ((u0 2 2) + 1)) dX5_number_45 (fun H locs hw => ?_)
          refine lv_iload_n hx hb dX5_number_48 rfl (lv_at hl 0 rfl) ?_
          exact r_iret (f := XW cI cZ a) hQ h hw dX5_number_49
        · have h := itF c6 h
          exact J31 u0 _ _ _ h hw (lv_sub hl [1] rfl)
abbrev rmX0_has : Room := { frames := 0, cells := 0, slots := 0, locals := 0 }
theorem hiX0_has_X0 : ∀ w ∈ wsX00, w ∈ wsX0_has := by decide +kernel
set_option maxHeartbeats 4000000 in
set_option maxRecDepth 100000 in
theorem c_X0_has (l : Launch) (D : va_G) (cI cZ : ClassId) (z : Nat → Nat) (base : Nat) (a : Nat → Nat) (x1 : Int32) (u0 : St) (ro : Int32) (h : F_X0_has x1 u0 = some ro) : MI l D [(cI, .int), (cZ, .boolean)] z base yX0_has wsX0_has rmX0_has [.ref (a 3), .int x1] (XW cI cZ a u0) ro (XW cI cZ a u0) := by
  refine MI.ofZ (own := RX0) (cc := cX0_has) (maxL := 2) (by decide) rfl rfl (Nat.le_of_ble_eq_true rfl) ?_
  intro p e s m args below meth c A Q ls C hl hw hQ
  have hx := C.1.1
  have hb := C.1.2.1
  have hl : lv_has ls 2 [(0, .ref (a 3)), (1, .int x1)] := hl
  rw [F_X0_has] at h
  refine lv_iload_n hx hb dX0_has_0 rfl (lv_at hl 1 rfl) ?_
  refine lv_if_lt (tgt := 22) hx hb dX0_has_1 (by decide) (fun c1 => ?_) (fun c1 => ?_)
  · have h := itT c1 h
    refine lv_iconst (v := 0) hx hb dX0_has_22 (by decide) ?_
    exact r_zretP hQ (by decide) h hw dX0_has_23
  · have h := itF c1 h
    refine lv_iload_n hx hb dX0_has_4 rfl (lv_at hl 1 rfl) ?_
    refine lv_aload_n hx hb dX0_has_5 rfl (lv_at hl 0 rfl) ?_
    refine r_get C hw hiX0_has_X0 3 (XWa_3 cI cZ a u0) rfl 0 (by decide) (by decide +kernel) rfl dX0_has_6 ?_
    refine lv_icmp_ge (tgt := 22) hx hb dX0_has_9 (by decide) (fun c2 => ?_) (fun c2 => ?_)
    · have h := itT c2 h
      refine lv_iconst (v := 0) hx hb dX0_has_22 (by decide) ?_
      exact r_zretP hQ (by decide) h hw dX0_has_23
    · have h := itF c2 h
      refine lv_iload_n hx hb dX0_has_12 rfl (lv_at hl 1 rfl) ?_
      refine lv_bipush (v := 32) hx hb dX0_has_13 (by decide) ?_
      refine lv_icmp_ge (tgt := 22) hx hb dX0_has_15 (by decide) (fun c3 => ?_) (fun c3 => ?_)
      · have h := itT c3 h
        refine lv_iconst (v := 0) hx hb dX0_has_22 (by decide) ?_
        exact r_zretP hQ (by decide) h hw dX0_has_23
      · have h := itF c3 h
        refine lv_iconst (v := 1) hx hb dX0_has_18 (by decide) ?_
        refine lv_goto (tgt := 23) hx hb dX0_has_19 (by decide) ?_
        exact r_zretP hQ (by decide) h hw dX0_has_23
abbrev rmX0_fields : Room := { frames := 1, cells := 0, slots := 0, locals := 21 }
theorem hiX0_fields_X0 : ∀ w ∈ wsX00, w ∈ wsX0_fields := by decide +kernel
set_option maxHeartbeats 4000000 in
set_option maxRecDepth 100000 in
theorem c_X0_fields (l : Launch) (D : va_G) (cI cZ : ClassId) (z : Nat → Nat) (base : Nat) (a : Nat → Nat) (x1 : Int32) (u0 : St) (ro : Int32) (h : F_X0_fields x1 u0 = some ro) : MI l D [(cI, .int), (cZ, .boolean)] z base yX0_fields wsX0_fields rmX0_fields [.ref (a 3), .int x1] (XW cI cZ a u0) ro (XW cI cZ a u0) := by
  refine MI.ofI (own := RX0) (cc := cX0_fields) (maxL := 2) (by decide) rfl rfl (Nat.le_of_ble_eq_true rfl) ?_
  intro p e s m args below meth c A Q ls C hl hw hQ
  have hx := C.1.1
  have hb := C.1.2.1
  have hl : lv_has ls 2 [(0, .ref (a 3)), (1, .int x1)] := hl
  rw [F_X0_fields] at h
  refine lv_aload_n hx hb dX0_fields_0 rfl (lv_at hl 0 rfl) ?_
  refine lv_iload_n hx hb dX0_fields_1 rfl (lv_at hl 1 rfl) ?_
  obtain ⟨r2, h1, h⟩ := b1E h
  refine r_callV (rest := []) C hw (c_X0_has l D cI cZ z base a x1 u0 r2 h1) (cwV 1 C.1.2.2.2.2 gX0_fields_X0_has rfl rfl rfl (by decide +kernel) ⟨Nat.le_of_ble_eq_true rfl, Nat.le_of_ble_eq_true rfl⟩) (va_recv C.2.1 hw.1 (ci := 0) (q0 := 3) rfl (XWa_3 cI cZ a u0)) rfl hl.1 rfl (Nat.le_of_ble_eq_true rfl) dX0_fields_2 ⟨Nat.zero_le _, Nat.zero_le _⟩ (fun H locs hw => ?_)
  refine lv_if_eq (tgt := 17) hx hb dX0_fields_5 (by decide) (fun c3 => ?_) (fun c3 => ?_)
  · have h := itT c3 h
    refine lv_iconst (v := (-1)) hx hb dX0_fields_17 (by decide) ?_
    exact r_iretP hQ h hw dX0_fields_18
  · have h := itF c3 h
    refine lv_aload_n hx hb dX0_fields_8 rfl (lv_at hl 0 rfl) ?_
    refine r_get C hw hiX0_fields_X0 3 (XWa_3 cI cZ a u0) rfl 2 (by decide) (by decide +kernel) rfl dX0_fields_9 ?_
    refine lv_iload_n hx hb dX0_fields_12 rfl (lv_at hl 1 rfl) ?_
    obtain ⟨g4, h⟩ := ixE h
    refine r_ald C hw 10 0 (XWa_10 cI cZ a u0) rfl g4 dX0_fields_13 ?_
    refine lv_goto (tgt := 18) hx hb dX0_fields_14 (by decide) ?_
    exact r_iretP hQ h hw dX0_fields_18
abbrev rmX0_fieldType : Room := { frames := 2, cells := 0, slots := 0, locals := 42 }
theorem hiX0_fieldType_X0 : ∀ w ∈ wsX00, w ∈ wsX0_fieldType := by decide +kernel
set_option maxHeartbeats 4000000 in
set_option maxRecDepth 100000 in
theorem c_X0_fieldType (l : Launch) (D : va_G) (cI cZ : ClassId) (z : Nat → Nat) (base : Nat) (a : Nat → Nat) (x1 : Int32) (x2 : Int32) (u0 : St) (ro : Int32) (h : F_X0_fieldType x1 x2 u0 = some ro) : MI l D [(cI, .int), (cZ, .boolean)] z base yX0_fieldType wsX0_fieldType rmX0_fieldType [.ref (a 3), .int x1, .int x2] (XW cI cZ a u0) ro (XW cI cZ a u0) := by
  refine MI.ofI (own := RX0) (cc := cX0_fieldType) (maxL := 3) (by decide) rfl rfl (Nat.le_of_ble_eq_true rfl) ?_
  intro p e s m args below meth c A Q ls C hl hw hQ
  have hx := C.1.1
  have hb := C.1.2.1
  have hl : lv_has ls 3 [(0, .ref (a 3)), (1, .int x1), (2, .int x2)] := hl
  rw [F_X0_fieldType] at h
  refine lv_iload_n hx hb dX0_fieldType_0 rfl (lv_at hl 2 rfl) ?_
  refine lv_if_lt (tgt := 27) hx hb dX0_fieldType_1 (by decide) (fun c1 => ?_) (fun c1 => ?_)
  · have h := itT c1 h
    refine lv_iconst (v := (-1)) hx hb dX0_fieldType_27 (by decide) ?_
    exact r_iretP hQ h hw dX0_fieldType_28
  · have h := itF c1 h
    refine lv_iload_n hx hb dX0_fieldType_4 rfl (lv_at hl 2 rfl) ?_
    refine lv_aload_n hx hb dX0_fieldType_5 rfl (lv_at hl 0 rfl) ?_
    refine lv_iload_n hx hb dX0_fieldType_6 rfl (lv_at hl 1 rfl) ?_
    obtain ⟨r3, h2, h⟩ := b1E h
    refine r_callV (rest := [.int x2]) C hw (c_X0_fields l D cI cZ z base a x1 u0 r3 h2) (cwV 1 C.1.2.2.2.2 gX0_fieldType_X0_fields rfl rfl rfl (by decide +kernel) ⟨Nat.le_of_ble_eq_true rfl, Nat.le_of_ble_eq_true rfl⟩) (va_recv C.2.1 hw.1 (ci := 0) (q0 := 3) rfl (XWa_3 cI cZ a u0)) rfl hl.1 rfl (Nat.le_of_ble_eq_true rfl) dX0_fieldType_7 ⟨Nat.zero_le _, Nat.zero_le _⟩ (fun H locs hw => ?_)
    refine lv_icmp_ge (tgt := 27) hx hb dX0_fieldType_10 (by decide) (fun c4 => ?_) (fun c4 => ?_)
    · have h := itT c4 h
      refine lv_iconst (v := (-1)) hx hb dX0_fieldType_27 (by decide) ?_
      exact r_iretP hQ h hw dX0_fieldType_28
    · have h := itF c4 h
      refine lv_aload_n hx hb dX0_fieldType_13 rfl (lv_at hl 0 rfl) ?_
      refine r_get C hw hiX0_fieldType_X0 3 (XWa_3 cI cZ a u0) rfl 3 (by decide) (by decide +kernel) rfl dX0_fieldType_14 ?_
      refine lv_iload_n hx hb dX0_fieldType_17 rfl (lv_at hl 1 rfl) ?_
      refine lv_bipush (v := 15) hx hb dX0_fieldType_18 (by decide) ?_
      refine lv_imul hx hb dX0_fieldType_20 ?_
      refine lv_iload_n hx hb dX0_fieldType_21 rfl (lv_at hl 2 rfl) ?_
      refine lv_iadd hx hb dX0_fieldType_22 ?_
      obtain ⟨g5, h⟩ := ixE h
      refine r_ald C hw 11 0 (XWa_11 cI cZ a u0) rfl g5 dX0_fieldType_23 ?_
      refine lv_goto (tgt := 28) hx hb dX0_fieldType_24 (by decide) ?_
      exact r_iretP hQ h hw dX0_fieldType_28
abbrev rmX0_slotMethod : Room := { frames := 1, cells := 0, slots := 0, locals := 21 }
theorem hiX0_slotMethod_X0 : ∀ w ∈ wsX00, w ∈ wsX0_slotMethod := by decide +kernel
set_option maxHeartbeats 4000000 in
set_option maxRecDepth 100000 in
theorem c_X0_slotMethod (l : Launch) (D : va_G) (cI cZ : ClassId) (z : Nat → Nat) (base : Nat) (a : Nat → Nat) (x1 : Int32) (x2 : Int32) (u0 : St) (ro : Int32) (h : F_X0_slotMethod x1 x2 u0 = some ro) : MI l D [(cI, .int), (cZ, .boolean)] z base yX0_slotMethod wsX0_slotMethod rmX0_slotMethod [.ref (a 3), .int x1, .int x2] (XW cI cZ a u0) ro (XW cI cZ a u0) := by
  refine MI.ofI (own := RX0) (cc := cX0_slotMethod) (maxL := 3) (by decide) rfl rfl (Nat.le_of_ble_eq_true rfl) ?_
  intro p e s m args below meth c A Q ls C hl hw hQ
  have hx := C.1.1
  have hb := C.1.2.1
  have hl : lv_has ls 3 [(0, .ref (a 3)), (1, .int x1), (2, .int x2)] := hl
  rw [F_X0_slotMethod] at h
  refine lv_aload_n hx hb dX0_slotMethod_0 rfl (lv_at hl 0 rfl) ?_
  refine lv_iload_n hx hb dX0_slotMethod_1 rfl (lv_at hl 1 rfl) ?_
  obtain ⟨r2, h1, h⟩ := b1E h
  refine r_callV (rest := []) C hw (c_X0_has l D cI cZ z base a x1 u0 r2 h1) (cwV 1 C.1.2.2.2.2 gX0_slotMethod_X0_has rfl rfl rfl (by decide +kernel) ⟨Nat.le_of_ble_eq_true rfl, Nat.le_of_ble_eq_true rfl⟩) (va_recv C.2.1 hw.1 (ci := 0) (q0 := 3) rfl (XWa_3 cI cZ a u0)) rfl hl.1 rfl (Nat.le_of_ble_eq_true rfl) dX0_slotMethod_2 ⟨Nat.zero_le _, Nat.zero_le _⟩ (fun H locs hw => ?_)
  refine lv_if_eq (tgt := 32) hx hb dX0_slotMethod_5 (by decide) (fun c3 => ?_) (fun c3 => ?_)
  · have h := itT c3 h
    refine lv_iconst (v := (-1)) hx hb dX0_slotMethod_32 (by decide) ?_
    exact r_iretP hQ h hw dX0_slotMethod_33
  · have h := itF c3 h
    refine lv_iload_n hx hb dX0_slotMethod_8 rfl (lv_at hl 2 rfl) ?_
    refine lv_if_lt (tgt := 32) hx hb dX0_slotMethod_9 (by decide) (fun c4 => ?_) (fun c4 => ?_)
    · have h := itT c4 h
      refine lv_iconst (v := (-1)) hx hb dX0_slotMethod_32 (by decide) ?_
      exact r_iretP hQ h hw dX0_slotMethod_33
    · have h := itF c4 h
      refine lv_iload_n hx hb dX0_slotMethod_12 rfl (lv_at hl 2 rfl) ?_
      refine lv_bipush (v := 16) hx hb dX0_slotMethod_13 (by decide) ?_
      refine lv_icmp_ge (tgt := 32) hx hb dX0_slotMethod_15 (by decide) (fun c5 => ?_) (fun c5 => ?_)
      · have h := itT c5 h
        refine lv_iconst (v := (-1)) hx hb dX0_slotMethod_32 (by decide) ?_
        exact r_iretP hQ h hw dX0_slotMethod_33
      · have h := itF c5 h
        refine lv_aload_n hx hb dX0_slotMethod_18 rfl (lv_at hl 0 rfl) ?_
        refine r_get C hw hiX0_slotMethod_X0 3 (XWa_3 cI cZ a u0) rfl 4 (by decide) (by decide +kernel) rfl dX0_slotMethod_19 ?_
        refine lv_iload_n hx hb dX0_slotMethod_22 rfl (lv_at hl 1 rfl) ?_
        refine lv_bipush (v := 16) hx hb dX0_slotMethod_23 (by decide) ?_
        refine lv_imul hx hb dX0_slotMethod_25 ?_
        refine lv_iload_n hx hb dX0_slotMethod_26 rfl (lv_at hl 2 rfl) ?_
        refine lv_iadd hx hb dX0_slotMethod_27 ?_
        obtain ⟨g6, h⟩ := ixE h
        refine r_ald C hw 12 0 (XWa_12 cI cZ a u0) rfl g6 dX0_slotMethod_28 ?_
        refine lv_goto (tgt := 33) hx hb dX0_slotMethod_29 (by decide) ?_
        exact r_iretP hQ h hw dX0_slotMethod_33
abbrev rmX0_inherit : Room := { frames := 3, cells := 0, slots := 0, locals := 64 }
theorem hiX0_inherit_X0 : ∀ w ∈ wsX00, w ∈ wsX0_inherit := by decide +kernel
set_option maxHeartbeats 4000000 in
set_option maxRecDepth 100000 in
theorem c_X0_inherit (l : Launch) (D : va_G) (cI cZ : ClassId) (z : Nat → Nat) (base : Nat) (a : Nat → Nat) (x1 : Int32) (u0 : St) (uo : St) (h : F_X0_inherit x1 u0 = some uo) : MV l D [(cI, .int), (cZ, .boolean)] z base yX0_inherit wsX0_inherit rmX0_inherit [.ref (a 3), .int x1] (XW cI cZ a u0) (XW cI cZ a uo) := by
  refine MV.of (own := RX0) (cc := cX0_inherit) (maxL := 5) (by decide) rfl rfl (Nat.le_of_ble_eq_true rfl) ?_
  intro p e s m args below meth c A Q ls C hl hw hQ
  have hx := C.1.1
  have hb := C.1.2.1
  have J61 : ∀ n61 : Nat, ∀ (x1 x2 x4 : Int32) (u0 : St) (H : Heap) (locs : List Loc) (ls : Array Slot), F_X0_inherit_61 n61 x1 x2 x4 u0 = some uo → Wd D A s.heap H locs (XW cI cZ a u0) → lv_has ls 5 [(0, .ref (a 3)), (1, .int x1), (2, .int x2), (4, .int x4)] → W p l e rmX0_inherit s m args below meth c H locs 0 0 Q (F0 m 61 ls []) := by
    intro n61
    induction n61 with
    | zero => intro x1 x2 x4 u0 H locs ls h; rw [F_X0_inherit_61] at h; cases h
    | succ n61 ih61 =>
      intro x1 x2 x4 u0 H locs ls h hw hl
      rw [F_X0_inherit_61] at h
      refine lv_iload hx hb dX0_inherit_61 (lv_at hl 3 rfl) ?_
      refine lv_bipush (v := 16) hx hb dX0_inherit_63 (by decide) ?_
      refine lv_icmp_ge (tgt := 106) hx hb dX0_inherit_65 (by decide) (fun c1 => ?_) (fun c1 => ?_)
      · have h := itT c1 h
        exact r_vret (f := XW cI cZ a) hQ h hw dX0_inherit_106
      · have h := itF c1 h
        refine lv_aload_n hx hb dX0_inherit_68 rfl (lv_at hl 0 rfl) ?_
        refine r_get C hw hiX0_inherit_X0 3 (XWa_3 cI cZ a u0) rfl 4 (by decide) (by decide +kernel) rfl dX0_inherit_69 ?_
        refine lv_iload_n hx hb dX0_inherit_72 rfl (lv_at hl 1 rfl) ?_
        refine lv_bipush (v := 16) hx hb dX0_inherit_73 (by decide) ?_
        refine lv_imul hx hb dX0_inherit_75 ?_
        refine lv_iload hx hb dX0_inherit_76 (lv_at hl 3 rfl) ?_
        refine lv_iadd hx hb dX0_inherit_78 ?_
        refine lv_aload_n hx hb dX0_inherit_79 rfl (lv_at hl 0 rfl) ?_
        refine lv_iload_n hx hb dX0_inherit_80 rfl (lv_at hl 2 rfl) ?_
        refine lv_iload hx hb dX0_inherit_81 (lv_at hl 3 rfl) ?_
        obtain ⟨r3, h2, h⟩ := b1E h
        refine r_callV (rest := [.int ((x1 * 16) + x4), .ref (a 12)]) C hw (c_X0_slotMethod l D cI cZ z base a x2 x4 u0 r3 h2) (cwV 2 C.1.2.2.2.2 gX0_inherit_X0_slotMethod rfl rfl rfl (by decide +kernel) ⟨Nat.le_of_ble_eq_true rfl, Nat.le_of_ble_eq_true rfl⟩) (va_recv C.2.1 hw.1 (ci := 0) (q0 := 3) rfl (XWa_3 cI cZ a u0)) rfl hl.1 rfl (Nat.le_of_ble_eq_true rfl) dX0_inherit_83 ⟨Nat.zero_le _, Nat.zero_le _⟩ (fun H locs hw => ?_)
        obtain ⟨g4, h⟩ := ixE h
        obtain ⟨u5, eu5⟩ : ∃ y : St, y = st u0 12 (((x1 * 16) + x4)).toNatClampNeg r3 := ⟨_, rfl⟩
        have h := nmE eu5 h
        refine r_ast (ws' := (XW cI cZ a u5)) C hw 12 0 (XWa_12 cI cZ a u0) rfl g4 (by rw [eu5]; exact XWs_12 cI cZ a u0 _ r3) dX0_inherit_86 (fun H locs hw => ?_)
        refine lv_aload_n hx hb dX0_inherit_87 rfl (lv_at hl 0 rfl) ?_
        refine r_get C hw hiX0_inherit_X0 3 (XWa_3 cI cZ a u5) rfl 5 (by decide) (by decide +kernel) rfl dX0_inherit_88 ?_
        refine lv_iload_n hx hb dX0_inherit_91 rfl (lv_at hl 1 rfl) ?_
        refine lv_bipush (v := 16) hx hb dX0_inherit_92 (by decide) ?_
        refine lv_imul hx hb dX0_inherit_94 ?_
        refine lv_iload hx hb dX0_inherit_95 (lv_at hl 3 rfl) ?_
        refine lv_iadd hx hb dX0_inherit_97 ?_
        refine lv_iconst (v := (-1)) hx hb dX0_inherit_98 (by decide) ?_
        obtain ⟨g6, h⟩ := ixE h
        obtain ⟨u7, eu7⟩ : ∃ y : St, y = st u5 13 (((x1 * 16) + x4)).toNatClampNeg (-1) := ⟨_, rfl⟩
        have h := nmE eu7 h
        refine r_ast (ws' := (XW cI cZ a u7)) C hw 13 0 (XWa_13 cI cZ a u5) rfl g6 (by rw [eu7]; exact XWs_13 cI cZ a u5 _ (-1)) dX0_inherit_99 (fun H locs hw => ?_)
        obtain ⟨v8, ev8⟩ : ∃ y : Int32, y = x4 + 1 := ⟨_, rfl⟩
        have h := nmE ev8 h
        refine lv_iinc (v := v8) (lv' := [(4, .int v8), (0, .ref (a 3)), (1, .int x1), (2, .int x2)]) hx hb dX0_inherit_100 hl (k := 3) rfl (by rw [ev8]; rfl) (by decide) rfl (fun ls hl => ?_)
        refine lv_goto (tgt := 61) hx hb dX0_inherit_103 (by decide) ?_
        exact ih61 x1 x2 v8 u7 _ _ _ h hw (lv_sub hl [1, 2, 3, 0] rfl)
  have J27 : ∀ n27 : Nat, ∀ (x1 x2 x3 x4 : Int32) (u0 : St) (H : Heap) (locs : List Loc) (ls : Array Slot), F_X0_inherit_27 n27 x1 x2 x3 x4 u0 = some uo → Wd D A s.heap H locs (XW cI cZ a u0) → lv_has ls 5 [(0, .ref (a 3)), (1, .int x1), (2, .int x2), (3, .int x3), (4, .int x4)] → W p l e rmX0_inherit s m args below meth c H locs 0 0 Q (F0 m 27 ls []) := by
    intro n27
    induction n27 with
    | zero => intro x1 x2 x3 x4 u0 H locs ls h; rw [F_X0_inherit_27] at h; cases h
    | succ n27 ih27 =>
      intro x1 x2 x3 x4 u0 H locs ls h hw hl
      rw [F_X0_inherit_27] at h
      refine lv_iload hx hb dX0_inherit_27 (lv_at hl 4 rfl) ?_
      refine lv_iload_n hx hb dX0_inherit_29 rfl (lv_at hl 3 rfl) ?_
      refine lv_icmp_ge (tgt := 58) hx hb dX0_inherit_30 (by decide) (fun c1 => ?_) (fun c1 => ?_)
      · have h := itT c1 h
        refine lv_iconst (v := 0) hx hb dX0_inherit_58 (by decide) ?_
        refine lv_istore (lv' := [(4, .int 0), (0, .ref (a 3)), (1, .int x1), (2, .int x2), (3, .int x3)]) hx hb dX0_inherit_59 hl (by decide) rfl (fun ls hl => ?_)
        exact J61 fu x1 x2 0 u0 _ _ _ h hw (lv_sub hl [1, 2, 3, 0] rfl)
      · have h := itF c1 h
        refine lv_aload_n hx hb dX0_inherit_33 rfl (lv_at hl 0 rfl) ?_
        refine r_get C hw hiX0_inherit_X0 3 (XWa_3 cI cZ a u0) rfl 3 (by decide) (by decide +kernel) rfl dX0_inherit_34 ?_
        refine lv_iload_n hx hb dX0_inherit_37 rfl (lv_at hl 1 rfl) ?_
        refine lv_bipush (v := 15) hx hb dX0_inherit_38 (by decide) ?_
        refine lv_imul hx hb dX0_inherit_40 ?_
        refine lv_iload hx hb dX0_inherit_41 (lv_at hl 4 rfl) ?_
        refine lv_iadd hx hb dX0_inherit_43 ?_
        refine lv_aload_n hx hb dX0_inherit_44 rfl (lv_at hl 0 rfl) ?_
        refine lv_iload_n hx hb dX0_inherit_45 rfl (lv_at hl 2 rfl) ?_
        refine lv_iload hx hb dX0_inherit_46 (lv_at hl 4 rfl) ?_
        obtain ⟨r3, h2, h⟩ := b1E h
        refine r_callV (rest := [.int ((x1 * 15) + x4), .ref (a 11)]) C hw (c_X0_fieldType l D cI cZ z base a x2 x4 u0 r3 h2) (cwV 2 C.1.2.2.2.2 gX0_inherit_X0_fieldType rfl rfl rfl (by decide +kernel) ⟨Nat.le_of_ble_eq_true rfl, Nat.le_of_ble_eq_true rfl⟩) (va_recv C.2.1 hw.1 (ci := 0) (q0 := 3) rfl (XWa_3 cI cZ a u0)) rfl hl.1 rfl (Nat.le_of_ble_eq_true rfl) dX0_inherit_48 ⟨Nat.zero_le _, Nat.zero_le _⟩ (fun H locs hw => ?_)
        obtain ⟨g4, h⟩ := ixE h
        obtain ⟨u5, eu5⟩ : ∃ y : St, y = st u0 11 (((x1 * 15) + x4)).toNatClampNeg r3 := ⟨_, rfl⟩
        have h := nmE eu5 h
        refine r_ast (ws' := (XW cI cZ a u5)) C hw 11 0 (XWa_11 cI cZ a u0) rfl g4 (by rw [eu5]; exact XWs_11 cI cZ a u0 _ r3) dX0_inherit_51 (fun H locs hw => ?_)
        obtain ⟨v6, ev6⟩ : ∃ y : Int32, y = x4 + 1 := ⟨_, rfl⟩
        have h := nmE ev6 h
        refine lv_iinc (v := v6) (lv' := [(4, .int v6), (0, .ref (a 3)), (1, .int x1), (2, .int x2), (3, .int x3)]) hx hb dX0_inherit_52 hl (k := 4) rfl (by rw [ev6]; rfl) (by decide) rfl (fun ls hl => ?_)
        refine lv_goto (tgt := 27) hx hb dX0_inherit_55 (by decide) ?_
        exact ih27 x1 x2 x3 v6 u5 _ _ _ h hw (lv_sub hl [1, 2, 3, 4, 0] rfl)
  have hl : lv_has ls 5 [(0, .ref (a 3)), (1, .int x1)] := hl
  rw [F_X0_inherit] at h
  refine lv_aload_n hx hb dX0_inherit_0 rfl (lv_at hl 0 rfl) ?_
  refine r_get C hw hiX0_inherit_X0 3 (XWa_3 cI cZ a u0) rfl 1 (by decide) (by decide +kernel) rfl dX0_inherit_1 ?_
  refine lv_iload_n hx hb dX0_inherit_4 rfl (lv_at hl 1 rfl) ?_
  obtain ⟨g1, h⟩ := ixE h
  refine r_ald C hw 9 0 (XWa_9 cI cZ a u0) rfl g1 dX0_inherit_5 ?_
  refine lv_topi (fun v2 ev2 => ?_)
  have h := nmE ev2 h
  refine lv_istore_n (lv' := [(2, .int v2), (0, .ref (a 3)), (1, .int x1)]) hx hb dX0_inherit_6 rfl hl (by decide) rfl (fun ls hl => ?_)
  refine lv_aload_n hx hb dX0_inherit_7 rfl (lv_at hl 1 rfl) ?_
  refine lv_iload_n hx hb dX0_inherit_8 rfl (lv_at hl 0 rfl) ?_
  obtain ⟨r4, h3, h⟩ := b1E h
  refine r_callV (rest := []) C hw (c_X0_fields l D cI cZ z base a v2 u0 r4 h3) (cwV 1 C.1.2.2.2.2 gX0_inherit_X0_fields rfl rfl rfl (by decide +kernel) ⟨Nat.le_of_ble_eq_true rfl, Nat.le_of_ble_eq_true rfl⟩) (va_recv C.2.1 hw.1 (ci := 0) (q0 := 3) rfl (XWa_3 cI cZ a u0)) rfl hl.1 rfl (Nat.le_of_ble_eq_true rfl) dX0_inherit_9 ⟨Nat.zero_le _, Nat.zero_le _⟩ (fun H locs hw => ?_)
  refine lv_iconst (v := 0) hx hb dX0_inherit_12 (by decide) ?_
  refine r_max C hl.1 (by decide +kernel) (by decide +kernel) (by decide +kernel) (by decide +kernel) (Nat.le_of_ble_eq_true rfl) (Nat.le_of_ble_eq_true rfl) (Nat.zero_le _) (Nat.zero_le _) dX0_inherit_13 ?_
  refine lv_topi (fun v5 ev5 => ?_)
  have h := nmE ev5 h
  refine lv_istore_n (lv' := [(3, .int v5), (2, .int v2), (0, .ref (a 3)), (1, .int x1)]) hx hb dX0_inherit_16 rfl hl (by decide) rfl (fun ls hl => ?_)
  refine lv_aload_n hx hb dX0_inherit_17 rfl (lv_at hl 2 rfl) ?_
  refine r_get C hw hiX0_inherit_X0 3 (XWa_3 cI cZ a u0) rfl 2 (by decide) (by decide +kernel) rfl dX0_inherit_18 ?_
  refine lv_iload_n hx hb dX0_inherit_21 rfl (lv_at hl 3 rfl) ?_
  refine lv_iload_n hx hb dX0_inherit_22 rfl (lv_at hl 0 rfl) ?_
  obtain ⟨g6, h⟩ := ixE h
  obtain ⟨u7, eu7⟩ : ∃ y : St, y = st u0 10 (x1).toNatClampNeg v5 := ⟨_, rfl⟩
  have h := nmE eu7 h
  refine r_ast (ws' := (XW cI cZ a u7)) C hw 10 0 (XWa_10 cI cZ a u0) rfl g6 (by rw [eu7]; exact XWs_10 cI cZ a u0 _ v5) dX0_inherit_23 (fun H locs hw => ?_)
  refine lv_iconst (v := 0) hx hb dX0_inherit_24 (by decide) ?_
  refine lv_istore (lv' := [(4, .int 0), (3, .int v5), (2, .int v2), (0, .ref (a 3)), (1, .int x1)]) hx hb dX0_inherit_25 hl (by decide) rfl (fun ls hl => ?_)
  exact J27 fu x1 v2 v5 0 u7 _ _ _ h hw (lv_sub hl [3, 4, 2, 1, 0] rfl)
abbrev rmJ7_fill_53178 : Room := { frames := 0, cells := 0, slots := 0, locals := 0 }
set_option maxHeartbeats 4000000 in
set_option maxRecDepth 100000 in
theorem c_J7_fill_53178 (l : Launch) (D : va_G) (cI cZ : ClassId) (z : Nat → Nat) (base : Nat) (a : Nat → Nat) (x1 : Int32) (u0 : St) (uo : St) (h : F_J7_fill_53178 x1 u0 = some uo) : MV l D [(cI, .int), (cZ, .boolean)] z base yJ7_fill_53178 wsJ7_fill_53178 rmJ7_fill_53178 [.ref (a 24), .int x1] (XW cI cZ a u0) (XW cI cZ a uo) := by
  refine MV.of (own := RJ7) (cc := cJ7_fill_53178) (maxL := 4) (by decide) rfl rfl (Nat.le_of_ble_eq_true rfl) ?_
  intro p e s m args below meth c A Q ls C hl hw hQ
  have hx := C.1.1
  have hb := C.1.2.1
  have J5 : ∀ n5 : Nat, ∀ (x1 x2 x3 : Int32) (u0 : St) (H : Heap) (locs : List Loc) (ls : Array Slot), F_J7_fill_53178_5 n5 x1 x2 x3 u0 = some uo → Wd D A s.heap H locs (XW cI cZ a u0) → lv_has ls 4 [(0, .ref (a 24)), (1, .int x1), (2, .int x2), (3, .int x3)] → W p l e rmJ7_fill_53178 s m args below meth c H locs 0 0 Q (F0 m 5 ls []) := by
    intro n5
    induction n5 with
    | zero => intro x1 x2 x3 u0 H locs ls h; rw [F_J7_fill_53178_5] at h; cases h
    | succ n5 ih5 =>
      intro x1 x2 x3 u0 H locs ls h hw hl
      rw [F_J7_fill_53178_5] at h
      refine lv_iload_n hx hb dJ7_fill_53178_5 rfl (lv_at hl 2 rfl) ?_
      refine lv_iload_n hx hb dJ7_fill_53178_6 rfl (lv_at hl 3 rfl) ?_
      refine lv_icmp_ge (tgt := 20) hx hb dJ7_fill_53178_7 (by decide) (fun c1 => ?_) (fun c1 => ?_)
      · have h := itT c1 h
        exact r_vret (f := XW cI cZ a) hQ h hw dJ7_fill_53178_20
      · have h := itF c1 h
        refine lv_aload_n hx hb dJ7_fill_53178_10 rfl (lv_at hl 0 rfl) ?_
        refine lv_iload_n hx hb dJ7_fill_53178_11 rfl (lv_at hl 2 rfl) ?_
        refine lv_iload_n hx hb dJ7_fill_53178_12 rfl (lv_at hl 1 rfl) ?_
        obtain ⟨g2, h⟩ := ixE h
        obtain ⟨u3, eu3⟩ : ∃ y : St, y = st u0 24 (x2).toNatClampNeg x1 := ⟨_, rfl⟩
        have h := nmE eu3 h
        refine r_ast (ws' := (XW cI cZ a u3)) C hw 24 0 (XWa_24 cI cZ a u0) rfl g2 (by rw [eu3]; exact XWs_24 cI cZ a u0 _ x1) dJ7_fill_53178_13 (fun H locs hw => ?_)
        obtain ⟨v4, ev4⟩ : ∃ y : Int32, y = x2 + 1 := ⟨_, rfl⟩
        have h := nmE ev4 h
        refine lv_iinc (v := v4) (lv' := [(2, .int v4), (0, .ref (a 24)), (1, .int x1), (3, .int x3)]) hx hb dJ7_fill_53178_14 hl (k := 2) rfl (by rw [ev4]; rfl) (by decide) rfl (fun ls hl => ?_)
        refine lv_goto (tgt := 5) hx hb dJ7_fill_53178_17 (by decide) ?_
        exact ih5 x1 v4 x3 u3 _ _ _ h hw (lv_sub hl [1, 2, 0, 3] rfl)
  have hl : lv_has ls 4 [(0, .ref (a 24)), (1, .int x1)] := hl
  rw [F_J7_fill_53178] at h
  refine lv_iconst (v := 0) hx hb dJ7_fill_53178_0 (by decide) ?_
  refine lv_istore_n (lv' := [(2, .int 0), (0, .ref (a 24)), (1, .int x1)]) hx hb dJ7_fill_53178_1 rfl hl (by decide) rfl (fun ls hl => ?_)
  refine lv_aload_n hx hb dJ7_fill_53178_2 rfl (lv_at hl 1 rfl) ?_
  refine r_alen (v := 250) C hw 24 0 (XWa_24 cI cZ a u0) rfl rfl dJ7_fill_53178_3 ?_
  refine lv_istore_n (lv' := [(3, .int 250), (2, .int 0), (0, .ref (a 24)), (1, .int x1)]) hx hb dJ7_fill_53178_4 rfl hl (by decide) rfl (fun ls hl => ?_)
  exact J5 fu x1 0 250 u0 _ _ _ h hw (lv_sub hl [2, 3, 1, 0] rfl)
abbrev rmX4_first : Room := { frames := 0, cells := 0, slots := 0, locals := 0 }
set_option maxHeartbeats 4000000 in
set_option maxRecDepth 100000 in
theorem c_X4_first (l : Launch) (D : va_G) (cI cZ : ClassId) (z : Nat → Nat) (base : Nat) (a : Nat → Nat) (x0 : Int32) (u0 : St) (ro : Int32) (h : F_X4_first x0 u0 = some ro) : MI l D [(cI, .int), (cZ, .boolean)] z base yX4_first wsX4_first rmX4_first [.int x0] (XW cI cZ a u0) ro (XW cI cZ a u0) := by
  refine MI.ofI (own := RX4) (cc := cX4_first) (maxL := 1) (by decide) rfl rfl (Nat.le_of_ble_eq_true rfl) ?_
  intro p e s m args below meth c A Q ls C hl hw hQ
  have hx := C.1.1
  have hb := C.1.2.1
  have hl : lv_has ls 1 [(0, .int x0)] := hl
  rw [F_X4_first] at h
  refine lv_iload_n hx hb dX4_first_0 rfl (lv_at hl 0 rfl) ?_
  refine lv_if_lt (tgt := 20) hx hb dX4_first_1 (by decide) (fun c1 => ?_) (fun c1 => ?_)
  · have h := itT c1 h
    refine lv_iconst (v := 0) hx hb dX4_first_20 (by decide) ?_
    exact r_iretP hQ h hw dX4_first_21
  · have h := itF c1 h
    refine lv_iload_n hx hb dX4_first_4 rfl (lv_at hl 0 rfl) ?_
    refine r_gets C hw C.2.2.2.2.2.1 (by decide +kernel) dX4_first_5 ?_
    refine r_slen C hw C.2.2.2.2.2.1 dX4_first_8 ?_
    refine lv_icmp_ge (tgt := 20) hx hb dX4_first_9 (by decide) (fun c2 => ?_) (fun c2 => ?_)
    · have h := itT c2 h
      refine lv_iconst (v := 0) hx hb dX4_first_20 (by decide) ?_
      exact r_iretP hQ h hw dX4_first_21
    · have h := itF c2 h
      refine r_gets C hw C.2.2.2.2.2.1 (by decide +kernel) dX4_first_12 ?_
      refine lv_iload_n hx hb dX4_first_15 rfl (lv_at hl 0 rfl) ?_
      obtain ⟨g3, h⟩ := ixE h
      refine r_sld C hw C.2.2.2.2.2.1 g3 dX4_first_16 ?_
      refine lv_goto (tgt := 21) hx hb dX4_first_17 (by decide) ?_
      exact r_iretP hQ h hw dX4_first_21
abbrev rmX4_width : Room := { frames := 0, cells := 0, slots := 0, locals := 0 }
set_option maxHeartbeats 4000000 in
set_option maxRecDepth 100000 in
theorem c_X4_width (l : Launch) (D : va_G) (cI cZ : ClassId) (z : Nat → Nat) (base : Nat) (a : Nat → Nat) (x0 : Int32) (u0 : St) (ro : Int32) (h : F_X4_width x0 u0 = some ro) : MI l D [(cI, .int), (cZ, .boolean)] z base yX4_width wsX4_width rmX4_width [.int x0] (XW cI cZ a u0) ro (XW cI cZ a u0) := by
  refine MI.ofI (own := RX4) (cc := cX4_width) (maxL := 1) (by decide) rfl rfl (Nat.le_of_ble_eq_true rfl) ?_
  intro p e s m args below meth c A Q ls C hl hw hQ
  have hx := C.1.1
  have hb := C.1.2.1
  have hl : lv_has ls 1 [(0, .int x0)] := hl
  rw [F_X4_width] at h
  refine lv_iload_n hx hb dX4_width_0 rfl (lv_at hl 0 rfl) ?_
  refine lv_if_lt (tgt := 20) hx hb dX4_width_1 (by decide) (fun c1 => ?_) (fun c1 => ?_)
  · have h := itT c1 h
    refine lv_iconst (v := 0) hx hb dX4_width_20 (by decide) ?_
    exact r_iretP hQ h hw dX4_width_21
  · have h := itF c1 h
    refine lv_iload_n hx hb dX4_width_4 rfl (lv_at hl 0 rfl) ?_
    refine r_gets C hw C.2.2.2.2.2.2.2 (by decide +kernel) dX4_width_5 ?_
    refine r_slen C hw C.2.2.2.2.2.2.2 dX4_width_8 ?_
    refine lv_icmp_ge (tgt := 20) hx hb dX4_width_9 (by decide) (fun c2 => ?_) (fun c2 => ?_)
    · have h := itT c2 h
      refine lv_iconst (v := 0) hx hb dX4_width_20 (by decide) ?_
      exact r_iretP hQ h hw dX4_width_21
    · have h := itF c2 h
      refine r_gets C hw C.2.2.2.2.2.2.2 (by decide +kernel) dX4_width_12 ?_
      refine lv_iload_n hx hb dX4_width_15 rfl (lv_at hl 0 rfl) ?_
      obtain ⟨g3, h⟩ := ixE h
      refine r_sld C hw C.2.2.2.2.2.2.2 g3 dX4_width_16 ?_
      refine lv_goto (tgt := 21) hx hb dX4_width_17 (by decide) ?_
      exact r_iretP hQ h hw dX4_width_21
end
