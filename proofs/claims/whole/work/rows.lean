section
-- ===== PART A: goes FIRST, ahead of the names: the tables' words, and 'selects' of the private methods out of them =====
/-- a private method of a class that the tables say can be made, by its rows of tables_1 -/
def lw_okq (q : MethodName × Nat) : Prop := (q.1.cls ≠ "java/lang/invoke/MethodHandle" ∧ q.1.cls ≠ "java/lang/invoke/VarHandle") ∧ Cond.instantiable q.1.cls q.2 ∈ tables_1 ∧ Cond.privateMethod q.1 ∈ tables_1 ∧ Cond.instanceMethod q.1 ∈ tables_1
theorem lw_p0 : lw_okq (⟨"java/lang/Throwable", "fillInStackTrace", "(I)Ljava/lang/Throwable;"⟩, 6) := ⟨⟨by decide +kernel, by decide +kernel⟩, List.mem_of_getElem? (i := 108) (by decide +kernel), List.mem_of_getElem? (i := 106) (by decide +kernel), List.mem_of_getElem? (i := 107) (by decide +kernel)⟩
theorem lw_p1 : lw_okq (⟨"StackComputer", "step", "()V"⟩, 10) := ⟨⟨by decide +kernel, by decide +kernel⟩, List.mem_of_getElem? (i := 10) (by decide +kernel), List.mem_of_getElem? (i := 189) (by decide +kernel), List.mem_of_getElem? (i := 190) (by decide +kernel)⟩
theorem lw_p2 : lw_okq (⟨"StackComputer", "fault", "()V"⟩, 10) := ⟨⟨by decide +kernel, by decide +kernel⟩, List.mem_of_getElem? (i := 10) (by decide +kernel), List.mem_of_getElem? (i := 193) (by decide +kernel), List.mem_of_getElem? (i := 194) (by decide +kernel)⟩
theorem lw_p3 : lw_okq (⟨"StackComputer", "unsignedByte", "(I)I"⟩, 10) := ⟨⟨by decide +kernel, by decide +kernel⟩, List.mem_of_getElem? (i := 10) (by decide +kernel), List.mem_of_getElem? (i := 197) (by decide +kernel), List.mem_of_getElem? (i := 198) (by decide +kernel)⟩
theorem lw_p4 : lw_okq (⟨"StackComputer", "finish", "(II)V"⟩, 10) := ⟨⟨by decide +kernel, by decide +kernel⟩, List.mem_of_getElem? (i := 10) (by decide +kernel), List.mem_of_getElem? (i := 201) (by decide +kernel), List.mem_of_getElem? (i := 202) (by decide +kernel)⟩
theorem lw_p5 : lw_okq (⟨"StackComputer", "combine", "(I)V"⟩, 10) := ⟨⟨by decide +kernel, by decide +kernel⟩, List.mem_of_getElem? (i := 10) (by decide +kernel), List.mem_of_getElem? (i := 205) (by decide +kernel), List.mem_of_getElem? (i := 206) (by decide +kernel)⟩
theorem lw_p6 : lw_okq (⟨"StackComputer", "push", "(III)V"⟩, 10) := ⟨⟨by decide +kernel, by decide +kernel⟩, List.mem_of_getElem? (i := 10) (by decide +kernel), List.mem_of_getElem? (i := 212) (by decide +kernel), List.mem_of_getElem? (i := 213) (by decide +kernel)⟩
theorem lw_p7 : lw_okq (⟨"StackComputer", "pop", "()V"⟩, 10) := ⟨⟨by decide +kernel, by decide +kernel⟩, List.mem_of_getElem? (i := 10) (by decide +kernel), List.mem_of_getElem? (i := 216) (by decide +kernel), List.mem_of_getElem? (i := 217) (by decide +kernel)⟩
theorem lw_p8 : lw_okq (⟨"StackComputer", "swap", "()V"⟩, 10) := ⟨⟨by decide +kernel, by decide +kernel⟩, List.mem_of_getElem? (i := 10) (by decide +kernel), List.mem_of_getElem? (i := 220) (by decide +kernel), List.mem_of_getElem? (i := 221) (by decide +kernel)⟩
theorem lw_p9 : lw_okq (⟨"StackComputer", "pushByte", "()V"⟩, 10) := ⟨⟨by decide +kernel, by decide +kernel⟩, List.mem_of_getElem? (i := 10) (by decide +kernel), List.mem_of_getElem? (i := 224) (by decide +kernel), List.mem_of_getElem? (i := 225) (by decide +kernel)⟩
theorem lw_p10 : lw_okq (⟨"StackComputer", "loadNarrow", "()V"⟩, 10) := ⟨⟨by decide +kernel, by decide +kernel⟩, List.mem_of_getElem? (i := 10) (by decide +kernel), List.mem_of_getElem? (i := 228) (by decide +kernel), List.mem_of_getElem? (i := 229) (by decide +kernel)⟩
theorem lw_p11 : lw_okq (⟨"StackComputer", "load", "(III)V"⟩, 10) := ⟨⟨by decide +kernel, by decide +kernel⟩, List.mem_of_getElem? (i := 10) (by decide +kernel), List.mem_of_getElem? (i := 232) (by decide +kernel), List.mem_of_getElem? (i := 233) (by decide +kernel)⟩
theorem lw_p12 : lw_okq (⟨"StackComputer", "storeNarrow", "()V"⟩, 10) := ⟨⟨by decide +kernel, by decide +kernel⟩, List.mem_of_getElem? (i := 10) (by decide +kernel), List.mem_of_getElem? (i := 236) (by decide +kernel), List.mem_of_getElem? (i := 237) (by decide +kernel)⟩
theorem lw_p13 : lw_okq (⟨"StackComputer", "store", "(III)V"⟩, 10) := ⟨⟨by decide +kernel, by decide +kernel⟩, List.mem_of_getElem? (i := 10) (by decide +kernel), List.mem_of_getElem? (i := 240) (by decide +kernel), List.mem_of_getElem? (i := 241) (by decide +kernel)⟩
theorem lw_p14 : lw_okq (⟨"StackComputer", "wide", "()V"⟩, 10) := ⟨⟨by decide +kernel, by decide +kernel⟩, List.mem_of_getElem? (i := 10) (by decide +kernel), List.mem_of_getElem? (i := 244) (by decide +kernel), List.mem_of_getElem? (i := 245) (by decide +kernel)⟩
theorem lw_p15 : lw_okq (⟨"StackComputer", "trap", "()V"⟩, 10) := ⟨⟨by decide +kernel, by decide +kernel⟩, List.mem_of_getElem? (i := 10) (by decide +kernel), List.mem_of_getElem? (i := 248) (by decide +kernel), List.mem_of_getElem? (i := 249) (by decide +kernel)⟩
def lw_privs_1 : List (MethodName × Nat) := [(⟨"java/lang/Throwable", "fillInStackTrace", "(I)Ljava/lang/Throwable;"⟩, 6), (⟨"StackComputer", "step", "()V"⟩, 10), (⟨"StackComputer", "fault", "()V"⟩, 10), (⟨"StackComputer", "unsignedByte", "(I)I"⟩, 10), (⟨"StackComputer", "finish", "(II)V"⟩, 10), (⟨"StackComputer", "combine", "(I)V"⟩, 10), (⟨"StackComputer", "push", "(III)V"⟩, 10), (⟨"StackComputer", "pop", "()V"⟩, 10), (⟨"StackComputer", "swap", "()V"⟩, 10), (⟨"StackComputer", "pushByte", "()V"⟩, 10), (⟨"StackComputer", "loadNarrow", "()V"⟩, 10), (⟨"StackComputer", "load", "(III)V"⟩, 10), (⟨"StackComputer", "storeNarrow", "()V"⟩, 10), (⟨"StackComputer", "store", "(III)V"⟩, 10), (⟨"StackComputer", "wide", "()V"⟩, 10), (⟨"StackComputer", "trap", "()V"⟩, 10)]
theorem lw_r1 : ∀ q ∈ lw_privs_1, lw_okq q := List.forall_mem_cons.mpr ⟨lw_p0, List.forall_mem_cons.mpr ⟨lw_p1, List.forall_mem_cons.mpr ⟨lw_p2, List.forall_mem_cons.mpr ⟨lw_p3, List.forall_mem_cons.mpr ⟨lw_p4, List.forall_mem_cons.mpr ⟨lw_p5, List.forall_mem_cons.mpr ⟨lw_p6, List.forall_mem_cons.mpr ⟨lw_p7, List.forall_mem_cons.mpr ⟨lw_p8, List.forall_mem_cons.mpr ⟨lw_p9, List.forall_mem_cons.mpr ⟨lw_p10, List.forall_mem_cons.mpr ⟨lw_p11, List.forall_mem_cons.mpr ⟨lw_p12, List.forall_mem_cons.mpr ⟨lw_p13, List.forall_mem_cons.mpr ⟨lw_p14, List.forall_mem_cons.mpr ⟨lw_p15, fun _ h => absurd h List.not_mem_nil⟩⟩⟩⟩⟩⟩⟩⟩⟩⟩⟩⟩⟩⟩⟩⟩
theorem lw_p16 : lw_okq (⟨"StackComputer", "unsignedPair", "(I)I"⟩, 10) := ⟨⟨by decide +kernel, by decide +kernel⟩, List.mem_of_getElem? (i := 10) (by decide +kernel), List.mem_of_getElem? (i := 252) (by decide +kernel), List.mem_of_getElem? (i := 253) (by decide +kernel)⟩
theorem lw_p17 : lw_okq (⟨"StackComputer", "loadConstant", "()V"⟩, 10) := ⟨⟨by decide +kernel, by decide +kernel⟩, List.mem_of_getElem? (i := 10) (by decide +kernel), List.mem_of_getElem? (i := 256) (by decide +kernel), List.mem_of_getElem? (i := 257) (by decide +kernel)⟩
theorem lw_p18 : lw_okq (⟨"StackComputer", "increase", "()V"⟩, 10) := ⟨⟨by decide +kernel, by decide +kernel⟩, List.mem_of_getElem? (i := 10) (by decide +kernel), List.mem_of_getElem? (i := 260) (by decide +kernel), List.mem_of_getElem? (i := 261) (by decide +kernel)⟩
theorem lw_p19 : lw_okq (⟨"StackComputer", "jump", "(I)V"⟩, 10) := ⟨⟨by decide +kernel, by decide +kernel⟩, List.mem_of_getElem? (i := 10) (by decide +kernel), List.mem_of_getElem? (i := 264) (by decide +kernel), List.mem_of_getElem? (i := 265) (by decide +kernel)⟩
theorem lw_p20 : lw_okq (⟨"StackComputer", "signedPair", "(I)I"⟩, 10) := ⟨⟨by decide +kernel, by decide +kernel⟩, List.mem_of_getElem? (i := 10) (by decide +kernel), List.mem_of_getElem? (i := 268) (by decide +kernel), List.mem_of_getElem? (i := 269) (by decide +kernel)⟩
theorem lw_p21 : lw_okq (⟨"StackComputer", "jumpOnTop", "(Z)V"⟩, 10) := ⟨⟨by decide +kernel, by decide +kernel⟩, List.mem_of_getElem? (i := 10) (by decide +kernel), List.mem_of_getElem? (i := 272) (by decide +kernel), List.mem_of_getElem? (i := 273) (by decide +kernel)⟩
theorem lw_p22 : lw_okq (⟨"StackComputer", "branch", "(ZII)V"⟩, 10) := ⟨⟨by decide +kernel, by decide +kernel⟩, List.mem_of_getElem? (i := 10) (by decide +kernel), List.mem_of_getElem? (i := 276) (by decide +kernel), List.mem_of_getElem? (i := 277) (by decide +kernel)⟩
theorem lw_p23 : lw_okq (⟨"StackComputer", "jumpOnLike", "()V"⟩, 10) := ⟨⟨by decide +kernel, by decide +kernel⟩, List.mem_of_getElem? (i := 10) (by decide +kernel), List.mem_of_getElem? (i := 280) (by decide +kernel), List.mem_of_getElem? (i := 281) (by decide +kernel)⟩
theorem lw_p24 : lw_okq (⟨"StackComputer", "enter", "()V"⟩, 10) := ⟨⟨by decide +kernel, by decide +kernel⟩, List.mem_of_getElem? (i := 10) (by decide +kernel), List.mem_of_getElem? (i := 284) (by decide +kernel), List.mem_of_getElem? (i := 285) (by decide +kernel)⟩
theorem lw_p25 : lw_okq (⟨"StackComputer", "leave", "()V"⟩, 10) := ⟨⟨by decide +kernel, by decide +kernel⟩, List.mem_of_getElem? (i := 10) (by decide +kernel), List.mem_of_getElem? (i := 288) (by decide +kernel), List.mem_of_getElem? (i := 289) (by decide +kernel)⟩
theorem lw_p26 : lw_okq (⟨"StackComputer", "halt", "()V"⟩, 10) := ⟨⟨by decide +kernel, by decide +kernel⟩, List.mem_of_getElem? (i := 10) (by decide +kernel), List.mem_of_getElem? (i := 292) (by decide +kernel), List.mem_of_getElem? (i := 293) (by decide +kernel)⟩
theorem lw_p27 : lw_okq (⟨"StackComputerModel", "step", "()V"⟩, 17) := ⟨⟨by decide +kernel, by decide +kernel⟩, List.mem_of_getElem? (i := 311) (by decide +kernel), List.mem_of_getElem? (i := 392) (by decide +kernel), List.mem_of_getElem? (i := 393) (by decide +kernel)⟩
theorem lw_p28 : lw_okq (⟨"StackComputerModel", "byteAt", "(I)I"⟩, 17) := ⟨⟨by decide +kernel, by decide +kernel⟩, List.mem_of_getElem? (i := 311) (by decide +kernel), List.mem_of_getElem? (i := 396) (by decide +kernel), List.mem_of_getElem? (i := 397) (by decide +kernel)⟩
theorem lw_p29 : lw_okq (⟨"StackComputerModel", "perform", "(I)I"⟩, 17) := ⟨⟨by decide +kernel, by decide +kernel⟩, List.mem_of_getElem? (i := 311) (by decide +kernel), List.mem_of_getElem? (i := 400) (by decide +kernel), List.mem_of_getElem? (i := 401) (by decide +kernel)⟩
theorem lw_p30 : lw_okq (⟨"StackComputerModel", "reckon", "(I)I"⟩, 17) := ⟨⟨by decide +kernel, by decide +kernel⟩, List.mem_of_getElem? (i := 311) (by decide +kernel), List.mem_of_getElem? (i := 404) (by decide +kernel), List.mem_of_getElem? (i := 405) (by decide +kernel)⟩
theorem lw_p31 : lw_okq (⟨"StackComputerModel", "read", "(I)I"⟩, 17) := ⟨⟨by decide +kernel, by decide +kernel⟩, List.mem_of_getElem? (i := 311) (by decide +kernel), List.mem_of_getElem? (i := 408) (by decide +kernel), List.mem_of_getElem? (i := 409) (by decide +kernel)⟩
def lw_privs_2 : List (MethodName × Nat) := [(⟨"StackComputer", "unsignedPair", "(I)I"⟩, 10), (⟨"StackComputer", "loadConstant", "()V"⟩, 10), (⟨"StackComputer", "increase", "()V"⟩, 10), (⟨"StackComputer", "jump", "(I)V"⟩, 10), (⟨"StackComputer", "signedPair", "(I)I"⟩, 10), (⟨"StackComputer", "jumpOnTop", "(Z)V"⟩, 10), (⟨"StackComputer", "branch", "(ZII)V"⟩, 10), (⟨"StackComputer", "jumpOnLike", "()V"⟩, 10), (⟨"StackComputer", "enter", "()V"⟩, 10), (⟨"StackComputer", "leave", "()V"⟩, 10), (⟨"StackComputer", "halt", "()V"⟩, 10), (⟨"StackComputerModel", "step", "()V"⟩, 17), (⟨"StackComputerModel", "byteAt", "(I)I"⟩, 17), (⟨"StackComputerModel", "perform", "(I)I"⟩, 17), (⟨"StackComputerModel", "reckon", "(I)I"⟩, 17), (⟨"StackComputerModel", "read", "(I)I"⟩, 17)]
theorem lw_r2 : ∀ q ∈ lw_privs_2, lw_okq q := List.forall_mem_cons.mpr ⟨lw_p16, List.forall_mem_cons.mpr ⟨lw_p17, List.forall_mem_cons.mpr ⟨lw_p18, List.forall_mem_cons.mpr ⟨lw_p19, List.forall_mem_cons.mpr ⟨lw_p20, List.forall_mem_cons.mpr ⟨lw_p21, List.forall_mem_cons.mpr ⟨lw_p22, List.forall_mem_cons.mpr ⟨lw_p23, List.forall_mem_cons.mpr ⟨lw_p24, List.forall_mem_cons.mpr ⟨lw_p25, List.forall_mem_cons.mpr ⟨lw_p26, List.forall_mem_cons.mpr ⟨lw_p27, List.forall_mem_cons.mpr ⟨lw_p28, List.forall_mem_cons.mpr ⟨lw_p29, List.forall_mem_cons.mpr ⟨lw_p30, List.forall_mem_cons.mpr ⟨lw_p31, fun _ h => absurd h List.not_mem_nil⟩⟩⟩⟩⟩⟩⟩⟩⟩⟩⟩⟩⟩⟩⟩⟩
theorem lw_p32 : lw_okq (⟨"StackComputerModel", "write", "(II)V"⟩, 17) := ⟨⟨by decide +kernel, by decide +kernel⟩, List.mem_of_getElem? (i := 311) (by decide +kernel), List.mem_of_getElem? (i := 412) (by decide +kernel), List.mem_of_getElem? (i := 413) (by decide +kernel)⟩
theorem lw_p33 : lw_okq (⟨"StackComputerModel", "push", "(III)I"⟩, 17) := ⟨⟨by decide +kernel, by decide +kernel⟩, List.mem_of_getElem? (i := 311) (by decide +kernel), List.mem_of_getElem? (i := 416) (by decide +kernel), List.mem_of_getElem? (i := 417) (by decide +kernel)⟩
theorem lw_p34 : lw_okq (⟨"StackComputerModel", "swap", "()I"⟩, 17) := ⟨⟨by decide +kernel, by decide +kernel⟩, List.mem_of_getElem? (i := 311) (by decide +kernel), List.mem_of_getElem? (i := 420) (by decide +kernel), List.mem_of_getElem? (i := 421) (by decide +kernel)⟩
theorem lw_p35 : lw_okq (⟨"StackComputerModel", "store", "(III)I"⟩, 17) := ⟨⟨by decide +kernel, by decide +kernel⟩, List.mem_of_getElem? (i := 311) (by decide +kernel), List.mem_of_getElem? (i := 427) (by decide +kernel), List.mem_of_getElem? (i := 428) (by decide +kernel)⟩
theorem lw_p36 : lw_okq (⟨"StackComputerModel", "wide", "()I"⟩, 17) := ⟨⟨by decide +kernel, by decide +kernel⟩, List.mem_of_getElem? (i := 311) (by decide +kernel), List.mem_of_getElem? (i := 431) (by decide +kernel), List.mem_of_getElem? (i := 432) (by decide +kernel)⟩
theorem lw_p37 : lw_okq (⟨"StackComputerModel", "pair", "(I)I"⟩, 17) := ⟨⟨by decide +kernel, by decide +kernel⟩, List.mem_of_getElem? (i := 311) (by decide +kernel), List.mem_of_getElem? (i := 435) (by decide +kernel), List.mem_of_getElem? (i := 436) (by decide +kernel)⟩
theorem lw_p38 : lw_okq (⟨"StackComputerModel", "increase", "()I"⟩, 17) := ⟨⟨by decide +kernel, by decide +kernel⟩, List.mem_of_getElem? (i := 311) (by decide +kernel), List.mem_of_getElem? (i := 439) (by decide +kernel), List.mem_of_getElem? (i := 440) (by decide +kernel)⟩
theorem lw_p39 : lw_okq (⟨"StackComputerModel", "jump", "(ZII)I"⟩, 17) := ⟨⟨by decide +kernel, by decide +kernel⟩, List.mem_of_getElem? (i := 311) (by decide +kernel), List.mem_of_getElem? (i := 443) (by decide +kernel), List.mem_of_getElem? (i := 444) (by decide +kernel)⟩
theorem lw_p40 : lw_okq (⟨"StackComputerModel", "ifs", "(I)I"⟩, 17) := ⟨⟨by decide +kernel, by decide +kernel⟩, List.mem_of_getElem? (i := 311) (by decide +kernel), List.mem_of_getElem? (i := 447) (by decide +kernel), List.mem_of_getElem? (i := 448) (by decide +kernel)⟩
theorem lw_p41 : lw_okq (⟨"StackComputerModel", "call", "()I"⟩, 17) := ⟨⟨by decide +kernel, by decide +kernel⟩, List.mem_of_getElem? (i := 311) (by decide +kernel), List.mem_of_getElem? (i := 451) (by decide +kernel), List.mem_of_getElem? (i := 452) (by decide +kernel)⟩
theorem lw_p42 : lw_okq (⟨"StackComputerModel", "giveBack", "()I"⟩, 17) := ⟨⟨by decide +kernel, by decide +kernel⟩, List.mem_of_getElem? (i := 311) (by decide +kernel), List.mem_of_getElem? (i := 455) (by decide +kernel), List.mem_of_getElem? (i := 456) (by decide +kernel)⟩
def lw_privs_3 : List (MethodName × Nat) := [(⟨"StackComputerModel", "write", "(II)V"⟩, 17), (⟨"StackComputerModel", "push", "(III)I"⟩, 17), (⟨"StackComputerModel", "swap", "()I"⟩, 17), (⟨"StackComputerModel", "store", "(III)I"⟩, 17), (⟨"StackComputerModel", "wide", "()I"⟩, 17), (⟨"StackComputerModel", "pair", "(I)I"⟩, 17), (⟨"StackComputerModel", "increase", "()I"⟩, 17), (⟨"StackComputerModel", "jump", "(ZII)I"⟩, 17), (⟨"StackComputerModel", "ifs", "(I)I"⟩, 17), (⟨"StackComputerModel", "call", "()I"⟩, 17), (⟨"StackComputerModel", "giveBack", "()I"⟩, 17)]
theorem lw_r3 : ∀ q ∈ lw_privs_3, lw_okq q := List.forall_mem_cons.mpr ⟨lw_p32, List.forall_mem_cons.mpr ⟨lw_p33, List.forall_mem_cons.mpr ⟨lw_p34, List.forall_mem_cons.mpr ⟨lw_p35, List.forall_mem_cons.mpr ⟨lw_p36, List.forall_mem_cons.mpr ⟨lw_p37, List.forall_mem_cons.mpr ⟨lw_p38, List.forall_mem_cons.mpr ⟨lw_p39, List.forall_mem_cons.mpr ⟨lw_p40, List.forall_mem_cons.mpr ⟨lw_p41, List.forall_mem_cons.mpr ⟨lw_p42, fun _ h => absurd h List.not_mem_nil⟩⟩⟩⟩⟩⟩⟩⟩⟩⟩⟩
def lw_privs : List (MethodName × Nat) := lw_privs_1 ++ (lw_privs_2 ++ (lw_privs_3))
def lw_tbl : List Cond := k2_sels lw_privs ++ tables_1
theorem lw_privs_ok : ∀ q ∈ lw_privs, lw_okq q := by
  show ∀ q ∈ lw_privs_1 ++ (lw_privs_2 ++ (lw_privs_3)), lw_okq q
  exact List.forall_mem_append.mpr ⟨lw_r1, List.forall_mem_append.mpr ⟨lw_r2, lw_r3⟩⟩

/-! ===== BEGIN words of one list among another's, by their places ===== -/
theorem goodIn_r {big : List Cond} (ws : List Cond) (ps : List Nat) (hp : ws = ps.filterMap (fun i => big[i]?)) (h : ws.all goodWord = true) : GoodIn big ws := by
  intro w hw
  have h1 := List.all_eq_true.mp h w hw
  rw [hp] at hw
  obtain ⟨i, -, hi⟩ := List.mem_filterMap.mp hw
  have hm : w ∈ big := by first | exact List.mem_of_getElem? hi | exact List.getElem?_mem hi
  exact ⟨hm, good_of_word h1⟩
theorem goodIn_app {big a b : List Cond} (ha : GoodIn big a) (hb : GoodIn big b) : GoodIn big (a ++ b) := fun w h => (List.mem_append.mp h).elim (ha w) (hb w)
theorem goodIn_ca {big a b : List Cond} {c : Cond} (ha : GoodIn big (c :: a)) (hb : GoodIn big b) : GoodIn big (c :: (a ++ b)) := fun w h => (List.mem_cons.mp h).elim (fun e => ha w (List.mem_cons.mpr (Or.inl e))) (fun h => (List.mem_append.mp h).elim (fun h => ha w (List.mem_cons.mpr (Or.inr h))) (hb w))
theorem goodIn_sub {big ws : List Cond} (hm : ∀ w ∈ ws, w ∈ big) (h : ws.all goodWord = true) : GoodIn big ws := fun w hw => ⟨hm w hw, good_of_word (List.all_eq_true.mp h w hw)⟩
/-! ===== END ===== -/

/-! ===== BEGIN exceptions that leave a method, and their catching by the caller (launches without stack traces) ===== -/

section ZV
theorem zv_row {Q : Handler → Pre} {E : CtlPost} {e : Env} {d : Bool} {acts : List Action} {s : State} {f : JFrame} {a : Addr} {x : ExceptionTableEntry} {t : List ExceptionTableEntry} {c : ClassId} {cell : Cell} (hx : covers x f.pc = true) (h0 : x.catchType ≠ 0)
    (hl : s.vm.ClassLinks e.platform f.method.cls x.catchType c) (hcell : s.heap[a]? = some cell) (hobj : ∀ k, cell.vm ≠ .statics k) (hk : ∃ k, s.vm.classes[cell.cls]? = some k) (hc : ∃ k, s.vm.classes[c]? = some k) :
    wp (findHandler.go f a (x :: t)) Q E e d acts s ↔ (if s.vm.assignable cell.cls c = true then Q (.found x.handlerPc) d acts (s.setVm (s.vm.noted f.method.cls x.catchType (.cls c))) else wp (findHandler.go f a t) Q E e d acts (s.setVm (s.vm.noted f.method.cls x.catchType (.cls c)))) := by
  simp only [covers] at hx
  obtain ⟨ha, ht⟩ := (resolveClass_links e.toSetting hl).op (op := VmOp.resolveClass f.method.cls x.catchType) rfl
  have hal : s.vm.Alike (s.vm.noted f.method.cls x.catchType (.cls c)) := (Vm.Alike.refl s.vm).noted _ _ _
  obtain ⟨k1, hk1⟩ := hk
  obtain ⟨k2, hk2⟩ := hc
  obtain ⟨k1', hk1', -⟩ := hal.2.2 _ _ hk1
  obtain ⟨k2', hk2', -⟩ := hal.2.2 _ _ hk2
  have has : (s.vm.noted f.method.cls x.catchType (.cls c)).assignable cell.cls c = s.vm.assignable cell.cls c := hal.assignable _ _
  cases hfit : s.vm.assignable cell.cls c <;> rw [hfit] at has <;> simp [findHandler.go, hx, h0, ha, ht, hcell, hobj, hk1', hk2', has, VmOp.dirties, VmOp.acts]
/-- a row that is passed by -/
def zvPass (pl : Platform) (s₀ : State) (d : ClassId) (pc : Nat) (th : ClassId) (y : ExceptionTableEntry) : Prop := covers y pc = false ∨ (y.catchType ≠ 0 ∧ ∃ c, s₀.vm.ClassLinks pl d y.catchType c ∧ s₀.vm.assignable th c = false)
theorem zv_find {e : Env} {s₀ : State} {f : JFrame} {a : Addr} {cell : Cell} {x : ExceptionTableEntry} {rest : List ExceptionTableEntry} {c : ClassId} (hobj : ∀ k, cell.vm ≠ .statics k) (hk0 : ∃ k, s₀.vm.classes[cell.cls]? = some k) (hx : covers x f.pc = true) (h0 : x.catchType ≠ 0)
    (hl : s₀.vm.ClassLinks e.platform f.method.cls x.catchType c) (hfit : s₀.vm.assignable cell.cls c = true) :
    ∀ (pre : List ExceptionTableEntry) (S : State), s₀.WarmedH S.vm → S.heap[a]? = some cell → (∀ y ∈ pre, zvPass e.platform s₀ f.method.cls f.pc cell.cls y) →
      ∃ vm', s₀.WarmedH vm' ∧ ∀ (Q : Handler → Pre) (E : CtlPost) (d : Bool) (acts : List Action), wp (findHandler.go f a (pre ++ x :: rest)) Q E e d acts S ↔ Q (.found x.handlerPc) d acts (S.setVm vm') := by
  obtain ⟨k0, hk0⟩ := hk0
  have one : ∀ (y : ExceptionTableEntry) (c : ClassId) (S : State), s₀.vm.ClassLinks e.platform f.method.cls y.catchType c → s₀.WarmedH S.vm → S.vm.ClassLinks e.platform f.method.cls y.catchType c ∧ (∃ k, S.vm.classes[cell.cls]? = some k) ∧ (∃ k, S.vm.classes[c]? = some k) ∧ s₀.WarmedH (S.vm.noted f.method.cls y.catchType (.cls c)) := by
    intro y c S hl hW
    obtain ⟨k0', hk0', -⟩ := hW.alike.2.2 _ _ hk0
    obtain ⟨dk, _, _, kt, hd, _, _, _, _, hkt, _, hopen⟩ := hl.here
    obtain ⟨kt', hkt', -⟩ := hW.alike.2.2 _ _ hkt
    exact ⟨hW.classLinks hl, ⟨k0', hk0'⟩, ⟨kt', hkt'⟩, hW.noted hd hopen (State.rightAt_cls hl)⟩
  intro pre
  induction pre with
  | nil =>
    intro S hW hcell _
    obtain ⟨g1, g2, g3, g4⟩ := one x c S hl hW
    exact ⟨_, g4, fun Q E d acts => by rw [List.nil_append, zv_row hx h0 g1 hcell hobj g2 g3, if_pos (by rw [hW.alike.assignable]; exact hfit)]⟩
  | cons y ys ih =>
    intro S hW hcell hp
    rcases hp y List.mem_cons_self with h | ⟨hy0, c2, hl2, hno⟩
    · obtain ⟨vm', hW', hq⟩ := ih S hW hcell (fun z hz => hp z (List.mem_cons_of_mem _ hz))
      exact ⟨vm', hW', fun Q E d acts => by rw [List.cons_append, Jvm.W.findHandler_go_skip h]; exact hq Q E d acts⟩
    · by_cases hcov : covers y f.pc = true
      · obtain ⟨g1, g2, g3, g4⟩ := one y c2 S hl2 hW
        obtain ⟨vm', hW', hq⟩ := ih (S.setVm (S.vm.noted f.method.cls y.catchType (.cls c2))) g4 hcell (fun z hz => hp z (List.mem_cons_of_mem _ hz))
        exact ⟨vm', hW', fun Q E d acts => by rw [List.cons_append, zv_row hcov hy0 g1 hcell hobj g2 g3, if_neg (by rw [hW.alike.assignable, hno]; decide)]; exact hq Q E d acts⟩
      · obtain ⟨vm', hW', hq⟩ := ih S hW hcell (fun z hz => hp z (List.mem_cons_of_mem _ hz))
        exact ⟨vm', hW', fun Q E d acts => by rw [List.cons_append, Jvm.W.findHandler_go_skip (by simpa using hcov)]; exact hq Q E d acts⟩
theorem zv_fsv (u : State) (vm' : Vm) (F G : List Frame) : ((u.setFrames F).setVm vm').setFrames G = (u.setVm vm').setFrames G := by
  rw [show (u.setFrames F).setVm vm' = (u.setVm vm').setFrames F from rfl, State.setFrames_setFrames]
theorem zv_step {tb : Tables} {e : Env} {s target : State} {g : JFrame} {c : Code} {below : List Frame} {a : Addr} (h : At s g.method c below) {pc : Nat} {vm' : Vm}
    (hfind : ∀ (Q : Handler → Pre) (E : CtlPost) (d : Bool) (acts : List Action), wp (findHandler g a) Q E e d acts ((s.setTop g).pushFrame (.throwing a)) ↔ Q (.found pc) d acts (((s.setTop g).pushFrame (.throwing a)).setVm vm'))
    (hrest : Steps tb e below ((s.setVm vm').setTop { g with pc := pc, stack := [.ref a] }) target) : Steps tb e below ((s.setTop g).pushFrame (.throwing a)) target := by
  obtain ⟨hgo, hw⟩ := h.throwing a
  refine Steps.head hgo hw ?_
  have hIs : (stepThrowing e ((s.setTop g).pushFrame (.throwing a)) a (.java g :: s.frames.tail)).Is ((((s.setTop g).pushFrame (.throwing a)).setVm vm').setFrames (.java { g with pc := pc, stack := [.ref a] } :: s.frames.tail)) [] := by
    simp only [stepThrowing, searchFrame, vmDo]
    generalize hr : Sem.go _ e false [] ((s.setTop g).pushFrame (.throwing a)) = res
    obtain ⟨as, rfl, ha⟩ := Sem.eq_ok_of hr (a := Handler.found pc) (s' := ((s.setTop g).pushFrame (.throwing a)).setVm vm') (acts' := []) (by simp [hfind _ _ _ _])
    exact ⟨rfl, ha⟩
  rw [stepThread_throwing (frames_entered h.top _), hIs.1]
  obtain ⟨g₀, hg⟩ := Option.isSome_iff_exists.mp h.top
  obtain ⟨r, hr⟩ := State.topJava?_eq_some.mp hg
  have hr' : (s.setVm vm').frames = .java g₀ :: r := hr
  rw [State.setTop_of_frames _ hr'] at hrest
  rw [hr, List.tail_cons, State.pushFrame, zv_fsv, State.setTop_of_frames _ hr, zv_fsv]
  exact hrest
theorem zv_caught {p : Program} {l : Launch} {e : Env} {R : Room} {s : State} {m : MethodId} {args : Array Value} {below : List Frame} {meth : Method} {c : Code} {T : State} {locs : List Loc} {cells slots : Nat} (X : Stand p l e R s m args below meth c T locs cells slots) (a : Addr) {g : JFrame} (hg : g.method = m)
    {cell : Cell} (hcell : T.heap[a]? = some cell) (hobj : cell.vm.isStatics = false) (hk0 : ∃ k, s.vm.classes[cell.cls]? = some k) (pre : List ExceptionTableEntry) (x : ExceptionTableEntry) (suf : List ExceptionTableEntry) (hsplit : c.exceptionTable.toList = pre ++ x :: suf)
    (hpass : ∀ y ∈ pre, zvPass e.platform s m.cls g.pc cell.cls y) (hx : covers x g.pc = true) (h0 : x.catchType ≠ 0) {cT : ClassId} (hl : s.vm.ClassLinks e.platform m.cls x.catchType cT) (hfit : s.vm.assignable cell.cls cT = true) :
    ∃ vm', Stand p l e R s m args below meth c (T.setVm vm') locs cells slots ∧ ∀ target, Steps p.tables e below ((T.setVm vm').setTop { g with pc := x.handlerPc, stack := [.ref a] }) target → Steps p.tables e below ((T.setTop g).pushFrame (.throwing a)) target := by
  subst hg
  obtain ⟨vm', hW', hq⟩ := zv_find (e := e) (s₀ := s) (f := g) (a := a) (cell := cell) (x := x) (rest := suf) (VmData.ne_statics_of hobj) hk0 hx h0 hl hfit pre ((T.setTop g).pushFrame (.throwing a)) X.warmed hcell hpass
  refine ⟨vm', X.noted hW', fun target hrest => zv_step X.here (fun Q E d acts => ?_) hrest⟩
  rw [Jvm.W.findHandler_eq (s := (T.setTop g).pushFrame (.throwing a)) (meth := meth) (code := c) X.method' X.code, hsplit]
  exact hq Q E d acts
end ZV
section VXA
/-! The laws vx_back, vx_callV, vx_callS, vx_callSW, vx_throw0, vx_throwS follow proofs of the library, with one case more: JvmDerived/Free/Laws.lean (Back.of_free), Shelf42/LK1.lean (callV, callS), Shelf/KitTraced.lean (throwNew0V, throwNewS). -/
/-- where a method has thrown q: the class by its name, the cell, what was written, the world -/
def vx_T (XC : String → State → State → Prop) (st : State) (q : Addr) (t : State) (mc ms : Nat) (free : Addr → Prop) : Prop :=
  ∃ (E : String) (ce : Cell) (L : List Loc), XC E st t ∧ t.heap[q]? = some ce ∧ ce.vm = .none ∧ st.vm.findClass E = some ce.cls ∧ st.WarmedH t.vm ∧ st.sameButNew ({ t with vm := st.vm } : State) L mc ms ∧ ∀ z ∈ L, free z.base
def vx_Q (Qc : Array Value → State → Outcome → State → Prop) (XC : String → State → State → Prop) (mc ms : Nat) (free : Addr → Prop) : Array Value → State → Outcome → State → Prop := fun a st o t =>
  (Qc a st o t ∧ ∃ L, FrameEnd st o t L mc ms ∧ ∀ q ∈ L, free q.base) ∨ ∃ q, o = .threw q ∧ vx_T XC st q t mc ms free
/-- a callee that returns or throws -/
def vx_Met (l : Launch) (y : MethodName) (ws : List Cond) (rm : Room) (Pc : Array Value → State → Prop) (Qc : Array Value → State → Outcome → State → Prop) (XC : String → State → State → Prop) (mc ms : Nat) (free : Addr → Prop) : Prop :=
  MetFree l y (headSpec ws rm) Pc (fun _ _ _ _ _ => True) (vx_Q Qc XC mc ms free)
def vx_Post (XC : String → State → State → Prop) (mc ms : Nat) (free : Addr → Prop) : Pt → Array Value → Addr → Pt → Prop := fun A a q B =>
  ∃ (g : JFrame) (mk : MethodId) (t : State) (L : List Loc) (E : String) (ce : Cell), B.U.heap = t.heap ∧ B.U.vm = t.vm ∧ XC E (A.U.calling g mk a) t ∧ t.heap[q]? = some ce ∧ ce.vm = .none ∧ A.U.vm.findClass E = some ce.cls ∧ B.locs = A.locs ++ L ∧ (∀ z ∈ L, free z.base) ∧ B.cells = A.cells + mc ∧ B.slots = A.slots + ms
def vx_Back (l : Launch) (R : Room) (p : Program) (e : Env) (below : List Frame) (s : State) (sargs : Array Value) (y : MethodName) (len W9 : Nat)
    (Pre : Pt → Array Value → Prop) (Post : Pt → Array Value → Option Value → Pt → Prop) (PostX : Pt → Array Value → Addr → Pt → Prop) : Prop :=
  ∀ (m : MethodId) (meth : Method) (c : Code) (A : Pt) (g : JFrame) (ig : Instr) (mk : MethodId) (a : Array Value),
    Stand p l e R s m sargs below meth c A.U A.locs A.cells A.slots → g.method = m → g.locals.size = c.maxLocals → decode c.code g.pc = .ok (ig, len) →
    2 * g.monitorRoom + (g.stack.map fun v => v.category).sum ≤ W9 → A.U.methodNamed? y = some mk → Pre A a →
    (∃ (v : Option Value) (B : Pt), Stand p l e R s m sargs below meth c B.U B.locs B.cells B.slots ∧ Post A a v B ∧
      Steps p.tables e below (doInvoke e (A.U.setTop g) [] mk a).1 (B.U.setTop { g with pc := g.pc + len, stack := v.toList ++ g.stack })) ∨
    (∃ (q : Addr) (B : Pt), Stand p l e R s m sargs below meth c B.U B.locs B.cells B.slots ∧ PostX A a q B ∧
      Steps p.tables e below (doInvoke e (A.U.setTop g) [] mk a).1 ((B.U.setTop g).pushFrame (.throwing q)))
section Payer
variable {l : Launch} {R : Room} {p : Program} {e : Env} {below : List Frame} {s : State} {sargs : Array Value} {y : MethodName} {len W9 : Nat}
theorem vx_back {ws : List Cond} {rm : Room} {Pc : Array Value → State → Prop} {Qc : Array Value → State → Outcome → State → Prop} {XC : String → State → State → Prop} {mc ms : Nat} {free : Addr → Prop} {bytes : ByteArray} {maxL : Nat} {ret : Option FieldType}
    (hM : vx_Met l y ws rm Pc Qc XC mc ms free) (hblind : FrameBlind Pc) (hrc : rm.cells = mc) (hrs : rm.slots = ms)
    (hframes : rm.frames + 1 ≤ R.frames) (hlocals : W9 + (maxL + 11) + rm.locals ≤ R.locals)
    (hws : ∀ w ∈ ws, ∀ a' U, s.WarmedH U.vm → w.before a' U = true) (hcode : Cond.code y bytes maxL ret ∈ ws) (hinit : ∀ a' U, s.WarmedH U.vm → (Cond.initialized y.cls).before a' U = true) :
    vx_Back l R p e below s sargs y len W9 (PreOf R mc ms Pc) (PostOf Qc mc ms free) (vx_Post XC mc ms free) := by
  intro m meth c A g ig mk a X hg hsize hdg hW hn hp
  have h1 : (headSpec ws rm).pre.before a A.U = true := atoms_intro fun w hw => hws w hw _ _ X.warmed
  have h2 : (Cond.code y bytes maxL ret).before a A.U = true := hws _ hcode _ _ X.warmed
  have h3 : (Cond.initialized y.cls).before a A.U = true := hinit _ _ X.warmed
  have h4 : A.cells + (headSpec ws rm).room.cells ≤ R.cells := by rw [show (headSpec ws rm).room.cells = mc from hrc]; exact hp.1
  have h5 : A.slots + (headSpec ws rm).room.slots ≤ R.slots := by rw [show (headSpec ws rm).room.slots = ms from hrs]; exact hp.2.1
  have hPc : Pc a (A.U.calling g mk a) := hblind _ _ _ _ hp.2.2
  obtain ⟨U, Ls, c0, s0⟩ := A
  dsimp only [Pt.U, Pt.locs, Pt.cells, Pt.slots] at h1 h2 h3 h4 h5 X hn hPc ⊢
  obtain ⟨methY, cY, hmY, hcY, -, hlY, -, -, -, -⟩ := Cond.code_spec hn h2
  obtain ⟨kY, hkY, -⟩ := className_of_methodNamed hn
  have hinitY : kY.init = .initialized := Cond.initialized_spec (findClass_of_methodNamed hn) hkY h3
  have h : At U g.method c below := by rw [hg]; exact X.here
  have hlocals9 : W9 + (maxL + 11) + (headSpec ws rm).room.locals ≤ R.locals := hlocals
  have happ : (headSpec ws rm).appliesLoose y e.platform (U.calling g mk a) = true :=
    Spec.appliesLoose_calling (g := g) h hdg hn hkY hinitY
      (X.room_calling (g := g) (R' := (headSpec ws rm).room) hsize hmY hcY hframes (by rw [hlY]; omega) h4 h5) h1
  obtain ⟨mid, hmid⟩ := h.above
  have hfr : (U.setTop g).frames = (.java g :: mid) ++ below := by rw [State.frames_setTop' g h.top, hmid]; rfl
  obtain ⟨o, s₂, hsteps, -, hend, hq⟩ := Steps.callFree hM p X.admits X.cas X.clock (acts := []) hfr happ hPc trivial
  have hq' : vx_Q Qc XC mc ms free a (U.calling g mk a) o s₂ := hq
  rw [State.frames_setTop' g h.top] at hend
  obtain ⟨g₀, hg0⟩ := Option.isSome_iff_exists.mp h.top
  obtain ⟨r, hr⟩ := State.topJava?_eq_some.mp hg0
  have hr' : (({ U with heap := s₂.heap, slotsUsed := s₂.slotsUsed } : State).setVm s₂.vm).frames = .java g₀ :: r := hr
  rcases hq' with ⟨hqc, L, hfe, hL⟩ | ⟨q, rfl, E, ce, L, hx, hce, hcv, hcl, hW₂, hsm, hL⟩
  · obtain ⟨⟨v, rfl⟩, hW₂, e2, q2, q3, q4, q5, q6⟩ := id hfe
    have e3 : s₂ = ({ (U.calling g mk a).setFrames s₂.frames with heap := s₂.heap, slotsUsed := s₂.slotsUsed } : State).setVm s₂.vm := by
      have : s₂ = ({ s₂ with vm := (U.calling g mk a).vm } : State).setVm s₂.vm := rfl
      rw [e2] at this
      exact this
    obtain ⟨c₂, i₂, len₂, hc₂, hd₂, hf₂⟩ := hend
    have hW' : U.WarmedH s₂.vm := hW₂
    have hcc : c₂ = c := by
      have h1 : s₂.code? g.method = U.code? g.method := by
        rw [State.code?_eq, State.code?_eq, hW'.alike.method?]
      exact Option.some.inj (hc₂.symm.trans (h1.trans h.code))
    subst hcc
    have hlen : len₂ = len := by rw [hdg] at hd₂; cases hd₂; rfl
    subst hlen
    have hs₂ : s₂ = (({ U with heap := s₂.heap, slotsUsed := s₂.slotsUsed } : State).setVm s₂.vm).setTop { g with pc := g.pc + len₂, stack := v.toList ++ g.stack } := by
      refine e3.trans ?_
      rw [hf₂, State.calling_eq h.top, State.setFrames_setFrames, State.setTop_of_frames _ hr', hr]
      rfl
    have hsame : U.sameButNew ({ U with heap := s₂.heap, slotsUsed := s₂.slotsUsed } : State) L mc ms := by
      refine ⟨?_, q2, q3, q4, q5, q6⟩
      obtain ⟨t, ht, -⟩ := State.frames_cons hr
      show ({ U with heap := s₂.heap, slotsUsed := s₂.slotsUsed } : State) = { U.setFrames U.frames with heap := s₂.heap, slotsUsed := s₂.slotsUsed }
      rw [State.setFrames_self ht]
    subst hg
    refine Or.inl ⟨v, ⟨(({ U with heap := s₂.heap, slotsUsed := s₂.slotsUsed } : State).setVm s₂.vm), Ls ++ L, c0 + mc, s0 + ms⟩,
      ⟨X.admits, X.cas, X.clock, X.frames, X.room, X.hears, X.method, X.code, (X.here.setHeapUsed s₂.heap s₂.slotsUsed).setVm hW'.alike, X.tail, State.WarmedH.trans X.warmed hW', X.limits, X.bytes, X.same.trans (hsame.setVm s.vm)⟩,
      ⟨g, mk, s₂, L, rfl, rfl, hqc, rfl, hL, rfl, rfl⟩, ?_⟩
    show Steps p.tables e below _ ((({ U with heap := s₂.heap, slotsUsed := s₂.slotsUsed } : State).setVm s₂.vm).setTop { g with pc := g.pc + len₂, stack := v.toList ++ g.stack })
    rw [← hs₂]
    exact hsteps
  · obtain ⟨e2, q2, q3, q4, q5, q6⟩ := id hsm
    have e3 : s₂ = ({ (U.calling g mk a).setFrames s₂.frames with heap := s₂.heap, slotsUsed := s₂.slotsUsed } : State).setVm s₂.vm := by
      have : s₂ = ({ s₂ with vm := (U.calling g mk a).vm } : State).setVm s₂.vm := rfl
      rw [e2] at this
      exact this
    have hf₂ : s₂.frames = .throwing q :: .java g :: U.frames.tail := hend
    have hW' : U.WarmedH s₂.vm := hW₂
    have hs₂ : s₂ = ((({ U with heap := s₂.heap, slotsUsed := s₂.slotsUsed } : State).setVm s₂.vm).setTop g).pushFrame (.throwing q) := by
      refine e3.trans ?_
      rw [hf₂, State.calling_eq h.top, State.setFrames_setFrames, State.pushFrame, State.frames_setTop _ hr', State.setTop_of_frames _ hr', State.setFrames_setFrames, hr]
      rfl
    have hsame : U.sameButNew ({ U with heap := s₂.heap, slotsUsed := s₂.slotsUsed } : State) L mc ms := by
      refine ⟨?_, q2, q3, q4, q5, q6⟩
      obtain ⟨t, ht, -⟩ := State.frames_cons hr
      show ({ U with heap := s₂.heap, slotsUsed := s₂.slotsUsed } : State) = { U.setFrames U.frames with heap := s₂.heap, slotsUsed := s₂.slotsUsed }
      rw [State.setFrames_self ht]
    subst hg
    refine Or.inr ⟨q, ⟨(({ U with heap := s₂.heap, slotsUsed := s₂.slotsUsed } : State).setVm s₂.vm), Ls ++ L, c0 + mc, s0 + ms⟩,
      ⟨X.admits, X.cas, X.clock, X.frames, X.room, X.hears, X.method, X.code, (X.here.setHeapUsed s₂.heap s₂.slotsUsed).setVm hW'.alike, X.tail, State.WarmedH.trans X.warmed hW', X.limits, X.bytes, X.same.trans (hsame.setVm s.vm)⟩,
      ⟨g, mk, s₂, L, E, ce, rfl, rfl, hx, hce, hcv, hcl, rfl, hL, rfl, rfl⟩, ?_⟩
    show Steps p.tables e below _ (((({ U with heap := s₂.heap, slotsUsed := s₂.slotsUsed } : State).setVm s₂.vm).setTop g).pushFrame (.throwing q))
    rw [← hs₂]
    exact hsteps
end Payer
section Calls
variable {p : Program} {l : Launch} {e : Env} {R : Room} {s : State} {m : MethodId} {args : Array Value} {below : List Frame} {meth : Method} {c : Code} {T : State} {locs : List Loc} {cells slots : Nat}
theorem vx_callV (X : Stand p l e R s m args below meth c T locs cells slots) (hexec : p.tables.exec = Jvm.exec) {own C : String} {index : Nat} {y : MethodName} {bytes : ByteArray} {maxL : Nat} {ret : Option FieldType}
    (hown : s.vm.findClass own = some m.cls) (hlink : (Cond.methodLink own index y).before args s = true) (hinst : (Cond.instanceMethod y).before args s = true) (hsel : (Cond.selects C y y).before args s = true)
    (hcode : (Cond.code y bytes maxL ret).before args s = true) (hy : y.cls ≠ "java/lang/invoke/MethodHandle" ∧ y.cls ≠ "java/lang/invoke/VarHandle")
    {W9 : Nat} {Pre : Pt → Array Value → Prop} {Post : Pt → Array Value → Option Value → Pt → Prop} {PostX : Pt → Array Value → Addr → Pt → Prop} (hK : vx_Back l R p e below s args y 3 W9 Pre Post PostX)
    {b : Addr} {cellB : Cell} (hcell : T.heap[b]? = some cellB) (hobj : cellB.vm.isStatics = false) (hcls : s.vm.findClass C = some cellB.cls)
    {g : JFrame} (hg : g.method = m) (hsize : g.locals.size = c.maxLocals) {argsL rest : List Value} (hlen : ∀ sig, parseMethodDescriptor y.desc = some sig → argsL.length = sig.parameters.length)
    (hstack : g.stack = argsL.reverse ++ .ref b :: rest) (hW : 2 * g.monitorRoom + (rest.map fun v => v.category).sum ≤ W9) (hdg : decode c.code g.pc = .ok (.invokevirtual index, 3))
    (hpre : ∀ vm₁, s.WarmedH vm₁ → Pre ⟨T.setVm vm₁, locs, cells, slots⟩ (Value.ref b :: argsL).toArray) :
    (∃ (v : Option Value) (vm₁ : Vm) (B : Pt), s.WarmedH vm₁ ∧ Stand p l e R s m args below meth c B.U B.locs B.cells B.slots ∧ Post ⟨T.setVm vm₁, locs, cells, slots⟩ (Value.ref b :: argsL).toArray v B ∧
      ∀ target, Steps p.tables e below (B.U.setTop { g with pc := g.pc + 3, stack := v.toList ++ rest }) target → Steps p.tables e below (T.setTop g) target) ∨
    (∃ (q : Addr) (vm₁ : Vm) (B : Pt), s.WarmedH vm₁ ∧ Stand p l e R s m args below meth c B.U B.locs B.cells B.slots ∧ PostX ⟨T.setVm vm₁, locs, cells, slots⟩ (Value.ref b :: argsL).toArray q B ∧
      Steps p.tables e below (T.setTop g) ((B.U.setTop { g with stack := rest }).pushFrame (.throwing q))) := by
  obtain ⟨mk, methM, hnamed, hmethM, hstM, habM⟩ := Cond.instanceMethod_spec hinst
  obtain ⟨methM', cM, hmethM', -, -, -, -, -, -, hsigM⟩ := Cond.code_spec hnamed hcode
  cases hmethM.symm.trans hmethM'
  obtain ⟨c2, r2, m2, q1, q2, q3, q4, kP, hkP, hkPi⟩ := Cond.selects_spec hsel
  cases hcls.symm.trans q1
  cases (State.methodFound?_of_named hnamed hy).symm.trans q2
  cases hnamed.symm.trans q3
  have hselP : selectMethod e.platform s.vm cellB.cls mk = .method mk := by rw [Launch.admits_selectMethod X.admits]; exact q4
  obtain ⟨vm₁, X₁, hstep₁⟩ := X.invokevirtual hexec hown hlink hnamed hmethM hstM hkP hkPi hy (a := b) (cell := cellB) hcell
    (fun z h => by rw [h] at hobj; cases hobj) hselP hmethM habM hkP hkPi (g := g) hg (argsL := argsL) (rest := rest) (hlen _ hsigM) hstack hdg
  rcases hK m meth c ⟨T.setVm vm₁, locs, cells, slots⟩ { g with stack := rest } (.invokevirtual index) mk (Value.ref b :: argsL).toArray X₁ hg hsize hdg hW (X₁.named hnamed) (hpre vm₁ X₁.warmed) with ⟨v, B, X', hpost, hsteps⟩ | ⟨q, B, X', hpost, hsteps⟩
  · exact Or.inl ⟨v, vm₁, B, X₁.warmed, X', hpost, fun target h => hstep₁ _ fun acts => by rw [doInvoke_state]; exact hsteps.trans h⟩
  · exact Or.inr ⟨q, vm₁, B, X₁.warmed, X', hpost, hstep₁ _ fun acts => by rw [doInvoke_state]; exact hsteps⟩
theorem vx_callS (X : Stand p l e R s m args below meth c T locs cells slots) (hexec : p.tables.exec = Jvm.exec) {own : String} {index : Nat} {y : MethodName} {bytes : ByteArray} {maxL : Nat} {ret : Option FieldType}
    (hown : s.vm.findClass own = some m.cls) (hlink : (Cond.methodLink own index y).before args s = true) (hstat : (Cond.static y).before args s = true) (hinit : (Cond.initialized y.cls).before args s = true)
    (hcode : (Cond.code y bytes maxL ret).before args s = true) (hy : y.cls ≠ "java/lang/invoke/MethodHandle" ∧ y.cls ≠ "java/lang/invoke/VarHandle")
    {W9 : Nat} {Pre : Pt → Array Value → Prop} {Post : Pt → Array Value → Option Value → Pt → Prop} {PostX : Pt → Array Value → Addr → Pt → Prop} (hK : vx_Back l R p e below s args y 3 W9 Pre Post PostX)
    {g : JFrame} (hg : g.method = m) (hsize : g.locals.size = c.maxLocals) {argsL rest : List Value} (hlen : ∀ sig, parseMethodDescriptor y.desc = some sig → argsL.length = sig.parameters.length)
    (hstack : g.stack = argsL.reverse ++ rest) (hW : 2 * g.monitorRoom + (rest.map fun v => v.category).sum ≤ W9) (hdg : decode c.code g.pc = .ok (.invokestatic index, 3))
    (hpre : ∀ vm₁, s.WarmedH vm₁ → Pre ⟨T.setVm vm₁, locs, cells, slots⟩ argsL.toArray) :
    (∃ (v : Option Value) (vm₁ : Vm) (B : Pt), s.WarmedH vm₁ ∧ Stand p l e R s m args below meth c B.U B.locs B.cells B.slots ∧ Post ⟨T.setVm vm₁, locs, cells, slots⟩ argsL.toArray v B ∧
      ∀ target, Steps p.tables e below (B.U.setTop { g with pc := g.pc + 3, stack := v.toList ++ rest }) target → Steps p.tables e below (T.setTop g) target) ∨
    (∃ (q : Addr) (vm₁ : Vm) (B : Pt), s.WarmedH vm₁ ∧ Stand p l e R s m args below meth c B.U B.locs B.cells B.slots ∧ PostX ⟨T.setVm vm₁, locs, cells, slots⟩ argsL.toArray q B ∧
      Steps p.tables e below (T.setTop g) ((B.U.setTop { g with stack := rest }).pushFrame (.throwing q))) := by
  obtain ⟨mk, hnamed⟩ := Cond.code_named hcode
  obtain ⟨methM, cM, hmethM, -, -, -, -, -, -, hsigM⟩ := Cond.code_spec hnamed hcode
  have hstatic : methM.isStatic = true := Cond.static_spec hnamed hmethM hstat
  obtain ⟨kP, hkP, -⟩ := className_of_methodNamed hnamed
  have hinitP : kP.init = .initialized := Cond.initialized_spec (findClass_of_methodNamed hnamed) hkP hinit
  obtain ⟨vm₁, X₁, hstep₁⟩ := X.invokestatic hexec hown hlink hnamed hmethM hstatic hkP hinitP hy (g := g) hg (argsL := argsL) (rest := rest) (hlen _ hsigM) hstack hdg
  rcases hK m meth c ⟨T.setVm vm₁, locs, cells, slots⟩ { g with stack := rest } (.invokestatic index) mk argsL.toArray X₁ hg hsize hdg hW (X₁.named hnamed) (hpre vm₁ X₁.warmed) with ⟨v, B, X', hpost, hsteps⟩ | ⟨q, B, X', hpost, hsteps⟩
  · exact Or.inl ⟨v, vm₁, B, X₁.warmed, X', hpost, fun target h => hstep₁ _ fun acts => by rw [doInvoke_state]; exact hsteps.trans h⟩
  · exact Or.inr ⟨q, vm₁, B, X₁.warmed, X', hpost, hstep₁ _ fun acts => by rw [doInvoke_state]; exact hsteps⟩
end Calls
theorem vx_cls {s : State} {T : State} {vm₁ : Vm} {E : String} {k : ClassId} (hW : s.WarmedH vm₁) (h : (T.setVm vm₁).vm.findClass E = some k) : s.vm.findClass E = some k := by
  have h1 : vm₁.findClass E = some k := h
  rw [hW.alike.findClass] at h1
  exact h1
/-- the method's frame g, with q thrown over it -/
def vx_W (p : Program) (l : Launch) (e : Env) (R : Room) (s : State) (m : MethodId) (args : Array Value) (below : List Frame) (meth : Method) (c : Code) (H : Heap) (locs : List Loc) (cells slots : Nat) (Q : State → Prop) (g : JFrame) (q : Addr) : Prop :=
  ∀ T : State, T.heap = H → Stand p l e R s m args below meth c T locs cells slots → ∃ t, Steps p.tables e below ((T.setTop g).pushFrame (.throwing q)) t ∧ Q t
def vx_Run (p : Program) (l : Launch) (e : Env) (R : Room) (s : State) (m : MethodId) (args : Array Value) (below : List Frame) (meth : Method) (c : Code) (H : Heap) (locs : List Loc) (cells slots mc ms : Nat) (g : JFrame) (rest : List Value) (Qa : State → Outcome → State → Prop) (XC : String → State → State → Prop) (free : Addr → Prop) : Prop :=
  ∀ T : State, T.heap = H → Stand p l e R s m args below meth c T locs cells slots →
    (∃ (v : Option Value) (st₀ t T' : State) (L : List Loc), st₀.heap = H ∧ Stand p l e R s m args below meth c T' (locs ++ L) (cells + mc) (slots + ms) ∧ (∀ q ∈ L, free q.base) ∧ T'.heap = t.heap ∧ T'.vm = t.vm ∧ Qa st₀ (.returned v) t ∧
      Goes p e below T g T' { g with pc := g.pc + 3, stack := v.toList ++ rest }) ∨
    (∃ (q : Addr) (st₀ t T' : State) (L : List Loc) (E : String) (ce : Cell), st₀.heap = H ∧ Stand p l e R s m args below meth c T' (locs ++ L) (cells + mc) (slots + ms) ∧ (∀ z ∈ L, free z.base) ∧ T'.heap = t.heap ∧ T'.vm = t.vm ∧ XC E st₀ t ∧ t.heap[q]? = some ce ∧ ce.vm = .none ∧ s.vm.findClass E = some ce.cls ∧
      Steps p.tables e below (T.setTop g) ((T'.setTop { g with stack := rest }).pushFrame (.throwing q)))
def vx_X {S : Type} (px : S → Prop) (B : String → S → State → Prop) (A : Nat → Prop) : String → State → State → Prop := fun E st t => ∃ u : S, px u ∧ B E u t ∧ va_F A st t
section Runs
variable {p : Program} {l : Launch} {e : Env} {R : Room} {s : State} {m : MethodId} {args : Array Value} {below : List Frame} {meth : Method} {c : Code} {H : Heap} {locs : List Loc} {cells slots : Nat}
variable {y : MethodName} {bytes cc : ByteArray} {maxL nL mc ms n index : Nat} {ret : Option FieldType} {ws : List Cond} {rm : Room} {Pc : Array Value → State → Prop} {Qc : Array Value → State → Outcome → State → Prop} {XC : String → State → State → Prop} {free : Addr → Prop} {Ts : List Cond} {own C : String} {b : Addr} {As rest : List Value} {g : JFrame}
theorem vx_callBack (cb : CallB R s args own index y bytes maxL ret ws rm mc ms n) (hM : vx_Met l y ws rm Pc Qc XC mc ms free) (hbl : FrameBlind Pc) : vx_Back l R p e below s args y 3 8 (PreOf R mc ms Pc) (PostOf Qc mc ms free) (vx_Post XC mc ms free) := by
  obtain ⟨hrc, hrs, hfr, hlo, hws, hcw, -, hini, -⟩ := cb
  exact vx_back (bytes := bytes) (maxL := maxL) (ret := ret) hM hbl hrc hrs hfr hlo hws hcw (fun a' U hW => word_at hW (Or.inl (by first | rfl | simp [Cond.onTables, Cond.keeps, Cond.steady])) hini)
theorem vx_runV (S : CallFix p m c cc nL s args Ts own) (hM : vx_Met l y ws rm Pc Qc XC mc ms free) (cw : CallW R s args own C index y bytes maxL ret ws rm mc ms n) (hp : PreV s H C b Pc As)
    (hg : g.method = m) (hn : As.length = n) (hsize : g.locals.size = nL) (hstack : g.stack = As.reverse ++ .ref b :: rest) (hW : 2 * g.monitorRoom + (rest.map fun v => v.category).sum ≤ 8) (hdg : decode cc g.pc = .ok (.invokevirtual index, 3)) (hf : cells + mc ≤ R.cells ∧ slots + ms ≤ R.slots) :
    vx_Run p l e R s m args below meth c H locs cells slots mc ms g rest (Qc (Value.ref b :: As).toArray) XC free := by
  have hK : vx_Back l R p e below s args y 3 8 (PreOf R mc ms Pc) (PostOf Qc mc ms free) (vx_Post XC mc ms free) := vx_callBack cw.1 hM hp.1
  obtain ⟨⟨-, -, -, -, -, -, hcode, -, hy, hlen, hl⟩, hin, hse⟩ := cw
  obtain ⟨hx, hb, hml, ho, -⟩ := S
  obtain ⟨-, ⟨cellB, hcB, hoB, hclB⟩, hPc⟩ := hp
  intro T hT X
  rcases vx_callV X hx (C := C) (bytes := bytes) (maxL := maxL) (ret := ret) ho hl hin hse hcode hy hK (by rw [hT]; exact hcB) hoB hclB hg (hsize.trans hml.symm) (argsL := As) (rest := rest) (fun sig h => hn.trans (hlen sig h)) hstack hW (by rw [hb]; exact hdg)
    (fun vm₁ hW₁ => ⟨hf.1, hf.2, hPc (T.setVm vm₁) hT hW₁⟩) with ⟨v, vm₁, ⟨U', l2, c2, s2⟩, hW₁, X', ⟨g', mk, t, L, e1, e2, hq, h1, hL, h2, h3⟩, st⟩ | ⟨q, vm₁, ⟨U', l2, c2, s2⟩, hW₁, X', ⟨g', mk, t, L, E, ce, e1, e2, hq, hce, hcv, hcl, h1, hL, h2, h3⟩, st⟩
  · dsimp only [Pt.U, Pt.locs, Pt.cells, Pt.slots] at X' e1 e2 h1 h2 h3 st
    subst h1; subst h2; subst h3
    exact Or.inl ⟨v, (T.setVm vm₁).calling g' mk (Value.ref b :: As).toArray, t, U', L, hT, X', hL, e1, e2, hq, st⟩
  · dsimp only [Pt.U, Pt.locs, Pt.cells, Pt.slots] at X' e1 e2 h1 h2 h3 st hcl
    subst h1; subst h2; subst h3
    exact Or.inr ⟨q, (T.setVm vm₁).calling g' mk (Value.ref b :: As).toArray, t, U', L, E, ce, hT, X', hL, e1, e2, hq, hce, hcv, vx_cls hW₁ hcl, st⟩
theorem vx_runS (S : CallFix p m c cc nL s args Ts own) (hM : vx_Met l y ws rm Pc Qc XC mc ms free) (cw : CallB R s args own index y bytes maxL ret ws rm mc ms n ∧ (Cond.static y).before args s = true) (hp : PreS s H Pc As)
    (hg : g.method = m) (hn : As.length = n) (hsize : g.locals.size = nL) (hstack : g.stack = As.reverse ++ rest) (hW : 2 * g.monitorRoom + (rest.map fun v => v.category).sum ≤ 8) (hdg : decode cc g.pc = .ok (.invokestatic index, 3)) (hf : cells + mc ≤ R.cells ∧ slots + ms ≤ R.slots) :
    vx_Run p l e R s m args below meth c H locs cells slots mc ms g rest (Qc As.toArray) XC free := by
  have hK : vx_Back l R p e below s args y 3 8 (PreOf R mc ms Pc) (PostOf Qc mc ms free) (vx_Post XC mc ms free) := vx_callBack cw.1 hM hp.1
  obtain ⟨⟨-, -, -, -, -, -, hcode, hini, hy, hlen, hl⟩, hstt⟩ := cw
  obtain ⟨hx, hb, hml, ho, -⟩ := S
  intro T hT X
  rcases vx_callS X hx (bytes := bytes) (maxL := maxL) (ret := ret) ho hl hstt hini hcode hy hK hg (hsize.trans hml.symm) (argsL := As) (rest := rest) (fun sig h => hn.trans (hlen sig h)) hstack hW (by rw [hb]; exact hdg)
    (fun vm₁ hW₁ => ⟨hf.1, hf.2, hp.2 (T.setVm vm₁) hT hW₁⟩) with ⟨v, vm₁, ⟨U', l2, c2, s2⟩, hW₁, X', ⟨g', mk, t, L, e1, e2, hq, h1, hL, h2, h3⟩, st⟩ | ⟨q, vm₁, ⟨U', l2, c2, s2⟩, hW₁, X', ⟨g', mk, t, L, E, ce, e1, e2, hq, hce, hcv, hcl, h1, hL, h2, h3⟩, st⟩
  · dsimp only [Pt.U, Pt.locs, Pt.cells, Pt.slots] at X' e1 e2 h1 h2 h3 st
    subst h1; subst h2; subst h3
    exact Or.inl ⟨v, (T.setVm vm₁).calling g' mk As.toArray, t, U', L, hT, X', hL, e1, e2, hq, st⟩
  · dsimp only [Pt.U, Pt.locs, Pt.cells, Pt.slots] at X' e1 e2 h1 h2 h3 st hcl
    subst h1; subst h2; subst h3
    exact Or.inr ⟨q, (T.setVm vm₁).calling g' mk As.toArray, t, U', L, E, ce, hT, X', hL, e1, e2, hq, hce, hcv, vx_cls hW₁ hcl, st⟩
end Runs
section Rows
variable {p : Program} {l : Launch} {e : Env} {R : Room} {s : State} {m : MethodId} {args : Array Value} {below : List Frame} {meth : Method} {c : Code} {H : Heap} {locs : List Loc} {cells slots : Nat} {Q : State → Prop}
variable {mc ms : Nat} {free : Addr → Prop} {A0 A1 : Nat → Prop} {H0 : Heap} {a : Array Value} {pc : Nat} {ls : Array Slot} {st0 rest : List Value}
theorem vx_keep {st₀ t T' : State} {L : List Loc} (h0 : st₀.heap = H) (e1 : T'.heap = t.heap) (hS : va_S A0 H0 H locs) (hA : ∀ q, q < H.size → A1 q → A0 q) (hf : ∀ q, free q → A0 q) (hL : ∀ q ∈ L, free q.base) (hF : va_F A1 st₀ t) :
    H.size ≤ T'.heap.size ∧ (∀ q : Nat, q < H.size → ¬ A1 q → T'.heap[q]? = H[q]?) ∧ va_S A0 H0 T'.heap (locs ++ L) := by
  obtain ⟨hz, hk⟩ := hF
  rw [h0] at hz hk
  exact ⟨by rw [e1]; exact hz, fun q h1 h2 => by rw [e1]; exact hk q h1 h2,
    ⟨Nat.le_trans hS.1 (by rw [e1]; exact hz), fun q h1 h2 => by rw [e1, hk q (Nat.lt_of_lt_of_le h1 hS.1) (fun z => h2 (hA q (Nat.lt_of_lt_of_le h1 hS.1) z))]; exact hS.2.1 q h1 h2, fun q hq => by
      rcases List.mem_append.mp hq with h | h
      · exact hS.2.2 q h
      · exact hf _ (hL q h)⟩⟩
theorem vx_calli {S SX : Type} {post : Int32 → S → Prop} {px : SX → Prop} {B : S → State → Prop} {BX : String → SX → State → Prop} {AX : Nat → Prop} (hr : vx_Run p l e R s m args below meth c H locs cells slots mc ms (F0 m pc ls st0) rest (va_Qi post B A1 a) (vx_X px BX AX) free) (hS : va_S A0 H0 H locs) (hA : ∀ q, q < H.size → A1 q → A0 q) (hf : ∀ q, free q → A0 q) (hAX : ∀ q, q < H.size → AX q → A0 q)
    (kx : ∀ (E : String) (ce : Cell) (q9 : Addr) (u : SX) (t : State) (H1 : Heap) (locs1 : List Loc), t.heap = H1 → s.vm.Alike t.vm → px u → BX E u t → H.size ≤ H1.size → (∀ q : Nat, q < H.size → ¬ AX q → H1[q]? = H[q]?) → va_S A0 H0 H1 locs1 → H1[q9]? = some ce → ce.vm = .none → s.vm.findClass E = some ce.cls → vx_W p l e R s m args below meth c H1 locs1 (cells + mc) (slots + ms) Q (F0 m pc ls rest) q9)
    (kk : ∀ (r : Int32) (u : S) (t : State) (H1 : Heap) (locs1 : List Loc), t.heap = H1 → s.vm.Alike t.vm → post r u → B u t → H.size ≤ H1.size → (∀ q : Nat, q < H.size → ¬ A1 q → H1[q]? = H[q]?) → va_S A0 H0 H1 locs1 → W p l e R s m args below meth c H1 locs1 (cells + mc) (slots + ms) Q (F0 m (pc + 3) ls (.int r :: rest))) : W p l e R s m args below meth c H locs cells slots Q (F0 m pc ls st0) := by
  intro T hT X
  rcases hr T hT X with ⟨v, st₀, t, T', L, h0, X', hL, e1, e2, ⟨⟨r, u, hv, hp, hb⟩, hF⟩, st⟩ | ⟨q, st₀, t, T', L, E, ce, h0, X', hL, e1, e2, ⟨u, hp, hb, hF⟩, hce, hcv, hcl, st⟩
  · cases hv
    obtain ⟨k1, k2, k3⟩ := vx_keep h0 e1 hS hA hf hL hF
    obtain ⟨t2, a1, b1⟩ := kk r u t T'.heap (locs ++ L) e1.symm (by rw [← e2]; exact X'.warmed.alike) hp hb k1 k2 k3 T' rfl X'
    exact ⟨t2, st t2 a1, b1⟩
  · obtain ⟨k1, k2, k3⟩ := vx_keep h0 e1 hS hAX hf hL hF
    obtain ⟨t2, a1, b1⟩ := kx E ce q u t T'.heap (locs ++ L) e1.symm (by rw [← e2]; exact X'.warmed.alike) hp hb k1 k2 k3 (by rw [e1]; exact hce) hcv hcl T' rfl X'
    exact ⟨t2, st.trans a1, b1⟩
theorem vx_calll {S SX : Type} {post : Int64 → S → Prop} {px : SX → Prop} {B : S → State → Prop} {BX : String → SX → State → Prop} {AX : Nat → Prop} (hr : vx_Run p l e R s m args below meth c H locs cells slots mc ms (F0 m pc ls st0) rest (va_Ql post B A1 a) (vx_X px BX AX) free) (hS : va_S A0 H0 H locs) (hA : ∀ q, q < H.size → A1 q → A0 q) (hf : ∀ q, free q → A0 q) (hAX : ∀ q, q < H.size → AX q → A0 q)
    (kx : ∀ (E : String) (ce : Cell) (q9 : Addr) (u : SX) (t : State) (H1 : Heap) (locs1 : List Loc), t.heap = H1 → s.vm.Alike t.vm → px u → BX E u t → H.size ≤ H1.size → (∀ q : Nat, q < H.size → ¬ AX q → H1[q]? = H[q]?) → va_S A0 H0 H1 locs1 → H1[q9]? = some ce → ce.vm = .none → s.vm.findClass E = some ce.cls → vx_W p l e R s m args below meth c H1 locs1 (cells + mc) (slots + ms) Q (F0 m pc ls rest) q9)
    (kk : ∀ (r : Int64) (u : S) (t : State) (H1 : Heap) (locs1 : List Loc), t.heap = H1 → s.vm.Alike t.vm → post r u → B u t → H.size ≤ H1.size → (∀ q : Nat, q < H.size → ¬ A1 q → H1[q]? = H[q]?) → va_S A0 H0 H1 locs1 → W p l e R s m args below meth c H1 locs1 (cells + mc) (slots + ms) Q (F0 m (pc + 3) ls (.long r :: rest))) : W p l e R s m args below meth c H locs cells slots Q (F0 m pc ls st0) := by
  intro T hT X
  rcases hr T hT X with ⟨v, st₀, t, T', L, h0, X', hL, e1, e2, ⟨⟨r, u, hv, hp, hb⟩, hF⟩, st⟩ | ⟨q, st₀, t, T', L, E, ce, h0, X', hL, e1, e2, ⟨u, hp, hb, hF⟩, hce, hcv, hcl, st⟩
  · cases hv
    obtain ⟨k1, k2, k3⟩ := vx_keep h0 e1 hS hA hf hL hF
    obtain ⟨t2, a1, b1⟩ := kk r u t T'.heap (locs ++ L) e1.symm (by rw [← e2]; exact X'.warmed.alike) hp hb k1 k2 k3 T' rfl X'
    exact ⟨t2, st t2 a1, b1⟩
  · obtain ⟨k1, k2, k3⟩ := vx_keep h0 e1 hS hAX hf hL hF
    obtain ⟨t2, a1, b1⟩ := kx E ce q u t T'.heap (locs ++ L) e1.symm (by rw [← e2]; exact X'.warmed.alike) hp hb k1 k2 k3 (by rw [e1]; exact hce) hcv hcl T' rfl X'
    exact ⟨t2, st.trans a1, b1⟩
theorem vx_callf {S SX : Type} {post : UInt32 → S → Prop} {px : SX → Prop} {B : S → State → Prop} {BX : String → SX → State → Prop} {AX : Nat → Prop} (hr : vx_Run p l e R s m args below meth c H locs cells slots mc ms (F0 m pc ls st0) rest (va_Qf post B A1 a) (vx_X px BX AX) free) (hS : va_S A0 H0 H locs) (hA : ∀ q, q < H.size → A1 q → A0 q) (hf : ∀ q, free q → A0 q) (hAX : ∀ q, q < H.size → AX q → A0 q)
    (kx : ∀ (E : String) (ce : Cell) (q9 : Addr) (u : SX) (t : State) (H1 : Heap) (locs1 : List Loc), t.heap = H1 → s.vm.Alike t.vm → px u → BX E u t → H.size ≤ H1.size → (∀ q : Nat, q < H.size → ¬ AX q → H1[q]? = H[q]?) → va_S A0 H0 H1 locs1 → H1[q9]? = some ce → ce.vm = .none → s.vm.findClass E = some ce.cls → vx_W p l e R s m args below meth c H1 locs1 (cells + mc) (slots + ms) Q (F0 m pc ls rest) q9)
    (kk : ∀ (r : UInt32) (u : S) (t : State) (H1 : Heap) (locs1 : List Loc), t.heap = H1 → s.vm.Alike t.vm → post r u → B u t → H.size ≤ H1.size → (∀ q : Nat, q < H.size → ¬ A1 q → H1[q]? = H[q]?) → va_S A0 H0 H1 locs1 → W p l e R s m args below meth c H1 locs1 (cells + mc) (slots + ms) Q (F0 m (pc + 3) ls (.float r :: rest))) : W p l e R s m args below meth c H locs cells slots Q (F0 m pc ls st0) := by
  intro T hT X
  rcases hr T hT X with ⟨v, st₀, t, T', L, h0, X', hL, e1, e2, ⟨⟨r, u, hv, hp, hb⟩, hF⟩, st⟩ | ⟨q, st₀, t, T', L, E, ce, h0, X', hL, e1, e2, ⟨u, hp, hb, hF⟩, hce, hcv, hcl, st⟩
  · cases hv
    obtain ⟨k1, k2, k3⟩ := vx_keep h0 e1 hS hA hf hL hF
    obtain ⟨t2, a1, b1⟩ := kk r u t T'.heap (locs ++ L) e1.symm (by rw [← e2]; exact X'.warmed.alike) hp hb k1 k2 k3 T' rfl X'
    exact ⟨t2, st t2 a1, b1⟩
  · obtain ⟨k1, k2, k3⟩ := vx_keep h0 e1 hS hAX hf hL hF
    obtain ⟨t2, a1, b1⟩ := kx E ce q u t T'.heap (locs ++ L) e1.symm (by rw [← e2]; exact X'.warmed.alike) hp hb k1 k2 k3 (by rw [e1]; exact hce) hcv hcl T' rfl X'
    exact ⟨t2, st.trans a1, b1⟩
theorem vx_calld {S SX : Type} {post : UInt64 → S → Prop} {px : SX → Prop} {B : S → State → Prop} {BX : String → SX → State → Prop} {AX : Nat → Prop} (hr : vx_Run p l e R s m args below meth c H locs cells slots mc ms (F0 m pc ls st0) rest (va_Qd post B A1 a) (vx_X px BX AX) free) (hS : va_S A0 H0 H locs) (hA : ∀ q, q < H.size → A1 q → A0 q) (hf : ∀ q, free q → A0 q) (hAX : ∀ q, q < H.size → AX q → A0 q)
    (kx : ∀ (E : String) (ce : Cell) (q9 : Addr) (u : SX) (t : State) (H1 : Heap) (locs1 : List Loc), t.heap = H1 → s.vm.Alike t.vm → px u → BX E u t → H.size ≤ H1.size → (∀ q : Nat, q < H.size → ¬ AX q → H1[q]? = H[q]?) → va_S A0 H0 H1 locs1 → H1[q9]? = some ce → ce.vm = .none → s.vm.findClass E = some ce.cls → vx_W p l e R s m args below meth c H1 locs1 (cells + mc) (slots + ms) Q (F0 m pc ls rest) q9)
    (kk : ∀ (r : UInt64) (u : S) (t : State) (H1 : Heap) (locs1 : List Loc), t.heap = H1 → s.vm.Alike t.vm → post r u → B u t → H.size ≤ H1.size → (∀ q : Nat, q < H.size → ¬ A1 q → H1[q]? = H[q]?) → va_S A0 H0 H1 locs1 → W p l e R s m args below meth c H1 locs1 (cells + mc) (slots + ms) Q (F0 m (pc + 3) ls (.double r :: rest))) : W p l e R s m args below meth c H locs cells slots Q (F0 m pc ls st0) := by
  intro T hT X
  rcases hr T hT X with ⟨v, st₀, t, T', L, h0, X', hL, e1, e2, ⟨⟨r, u, hv, hp, hb⟩, hF⟩, st⟩ | ⟨q, st₀, t, T', L, E, ce, h0, X', hL, e1, e2, ⟨u, hp, hb, hF⟩, hce, hcv, hcl, st⟩
  · cases hv
    obtain ⟨k1, k2, k3⟩ := vx_keep h0 e1 hS hA hf hL hF
    obtain ⟨t2, a1, b1⟩ := kk r u t T'.heap (locs ++ L) e1.symm (by rw [← e2]; exact X'.warmed.alike) hp hb k1 k2 k3 T' rfl X'
    exact ⟨t2, st t2 a1, b1⟩
  · obtain ⟨k1, k2, k3⟩ := vx_keep h0 e1 hS hAX hf hL hF
    obtain ⟨t2, a1, b1⟩ := kx E ce q u t T'.heap (locs ++ L) e1.symm (by rw [← e2]; exact X'.warmed.alike) hp hb k1 k2 k3 (by rw [e1]; exact hce) hcv hcl T' rfl X'
    exact ⟨t2, st.trans a1, b1⟩
theorem vx_callv {S SX : Type} {post : S → Prop} {px : SX → Prop} {B : S → State → Prop} {BX : String → SX → State → Prop} {AX : Nat → Prop} (hr : vx_Run p l e R s m args below meth c H locs cells slots mc ms (F0 m pc ls st0) rest (va_Qv post B A1 a) (vx_X px BX AX) free) (hS : va_S A0 H0 H locs) (hA : ∀ q, q < H.size → A1 q → A0 q) (hf : ∀ q, free q → A0 q) (hAX : ∀ q, q < H.size → AX q → A0 q)
    (kx : ∀ (E : String) (ce : Cell) (q9 : Addr) (u : SX) (t : State) (H1 : Heap) (locs1 : List Loc), t.heap = H1 → s.vm.Alike t.vm → px u → BX E u t → H.size ≤ H1.size → (∀ q : Nat, q < H.size → ¬ AX q → H1[q]? = H[q]?) → va_S A0 H0 H1 locs1 → H1[q9]? = some ce → ce.vm = .none → s.vm.findClass E = some ce.cls → vx_W p l e R s m args below meth c H1 locs1 (cells + mc) (slots + ms) Q (F0 m pc ls rest) q9)
    (kk : ∀ (u : S) (t : State) (H1 : Heap) (locs1 : List Loc), t.heap = H1 → s.vm.Alike t.vm → post u → B u t → H.size ≤ H1.size → (∀ q : Nat, q < H.size → ¬ A1 q → H1[q]? = H[q]?) → va_S A0 H0 H1 locs1 → W p l e R s m args below meth c H1 locs1 (cells + mc) (slots + ms) Q (F0 m (pc + 3) ls (rest))) : W p l e R s m args below meth c H locs cells slots Q (F0 m pc ls st0) := by
  intro T hT X
  rcases hr T hT X with ⟨v, st₀, t, T', L, h0, X', hL, e1, e2, ⟨⟨u, hv, hp, hb⟩, hF⟩, st⟩ | ⟨q, st₀, t, T', L, E, ce, h0, X', hL, e1, e2, ⟨u, hp, hb, hF⟩, hce, hcv, hcl, st⟩
  · cases hv
    obtain ⟨k1, k2, k3⟩ := vx_keep h0 e1 hS hA hf hL hF
    obtain ⟨t2, a1, b1⟩ := kk u t T'.heap (locs ++ L) e1.symm (by rw [← e2]; exact X'.warmed.alike) hp hb k1 k2 k3 T' rfl X'
    exact ⟨t2, st t2 a1, b1⟩
  · obtain ⟨k1, k2, k3⟩ := vx_keep h0 e1 hS hAX hf hL hF
    obtain ⟨t2, a1, b1⟩ := kx E ce q u t T'.heap (locs ++ L) e1.symm (by rw [← e2]; exact X'.warmed.alike) hp hb k1 k2 k3 (by rw [e1]; exact hce) hcv hcl T' rfl X'
    exact ⟨t2, st.trans a1, b1⟩
/-- caught by the row x of this method's table; the rows ahead don't take it -/
theorem vx_catch {own name : String} {E : String} {ce : Cell} {q : Addr} (hown : s.vm.findClass own = some m.cls) (pre : List ExceptionTableEntry) (x : ExceptionTableEntry) (suf : List ExceptionTableEntry) (hsplit : c.exceptionTable.toList = pre ++ x :: suf)
    (hpass : ∀ z ∈ pre, covers z pc = false ∨ (z.catchType ≠ 0 ∧ ∃ nm : String, (Cond.classLink own z.catchType nm).before args s = true ∧ va_Nc E nm s)) (hx : covers x pc = true) (h0 : x.catchType ≠ 0)
    (hlink : (Cond.classLink own x.catchType name).before args s = true) (hcast : (Cond.castable E name).before args s = true) (hcell : H[q]? = some ce) (hv : ce.vm = .none) (hcl : s.vm.findClass E = some ce.cls)
    (kk : W p l e R s m args below meth c H locs cells slots Q (F0 m x.handlerPc ls [.ref q])) : vx_W p l e R s m args below meth c H locs cells slots Q (F0 m pc ls rest) q := by
  intro T hT X
  have hpl : e.platform.magicAccessors = ({} : Platform).magicAccessors := by rw [X.admits.platform]
  obtain ⟨c3, c4, hc3, hc4, hasg⟩ := Cond.castable_spec hcast
  cases Option.some.inj (hc3.symm.trans hcl)
  obtain ⟨c5, hc5, hcl5⟩ := Cond.classLink_spec hown hlink e.platform hpl
  cases Option.some.inj (hc4.symm.trans hc5)
  obtain ⟨vm', X', st⟩ := zv_caught X q (g := F0 m pc ls rest) rfl (by rw [hT]; exact hcell) (by rw [hv]; rfl) (by obtain ⟨k9, h9, -⟩ := Vm.findClass_spec hcl; exact ⟨k9, h9⟩) pre x suf hsplit
    (fun z hz => by
      rcases hpass z hz with h | ⟨hz0, nm, hl1, hn1⟩
      · exact Or.inl h
      · obtain ⟨c6, hc6, hcl6⟩ := Cond.classLink_spec hown hl1 e.platform hpl
        obtain ⟨a8, b8, h1, h2, h3⟩ := hn1
        cases Option.some.inj (h1.symm.trans hcl)
        cases Option.some.inj (h2.symm.trans hc6)
        exact Or.inr ⟨hz0, _, hcl6, h3⟩) hx h0 hcl5 hasg
  obtain ⟨t, a1, b1⟩ := kk (T.setVm vm') hT X'
  exact ⟨t, st t a1, b1⟩
end Rows
section Ends
variable {p : Program} {l : Launch} {e : Env} {R : Room} {s : State} {m : MethodId} {args : Array Value} {below : List Frame} {meth : Method} {c : Code} {H : Heap} {locs : List Loc} {cells slots : Nat} {Q : State → Prop}
variable {mc ms : Nat} {free : Addr → Prop} {A0 A1 : Nat → Prop} {H0 : Heap} {a : Array Value} {ls : Array Slot} {st0 rest : List Value}
variable {Qc : Array Value → State → Outcome → State → Prop} {XC : String → State → State → Prop}
/-- what a body that may throw owes at its end -/
def vx_MQ (below : List Frame) (Qc : Array Value → State → Outcome → State → Prop) (XC : String → State → State → Prop) (a : Array Value) (s : State) (mc ms : Nat) (free : Addr → Prop) : State → Prop := fun t =>
  ∃ o, t.status = .running ∧ Ended t below o ∧ vx_Q Qc XC mc ms free a s o t
theorem vx_ret {g : JFrame} {mc ms : Nat} (k : W p l e R s m args below meth c H locs cells slots (MQ below Qc args s mc ms free) g) : W p l e R s m args below meth c H locs cells slots (vx_MQ below Qc XC args s mc ms free) g := by
  intro T hT X
  obtain ⟨t, a1, o, b1, b2, b3, b4⟩ := k T hT X
  exact ⟨t, a1, o, b1, b2, Or.inl ⟨b3, b4⟩⟩
/-- not caught here: it goes on to the caller -/
theorem vx_widen {g : JFrame} {q : Addr} {k n : Nat} (h1 : cells ≤ k) (h2 : slots ≤ n) (kk : vx_W p l e R s m args below meth c H locs k n Q g q) : vx_W p l e R s m args below meth c H locs cells slots Q g q := fun T hT X => kk T hT (stand_widen X h1 h2)
theorem vx_out {pc : Nat} {E : String} {ce : Cell} {q : Addr} {mc ms : Nat} (hout : ∀ x ∈ c.exceptionTable.toList, covers x pc = false) (hlocks : meth.locks = false) (hcell : H[q]? = some ce) (hv : ce.vm = .none) (hcl : s.vm.findClass E = some ce.cls)
    (hx : ∀ t : State, t.heap = H → s.vm.Alike t.vm → XC E s t) (hf : ∀ z ∈ locs, free z.base) (hc : cells ≤ mc) (hs : slots ≤ ms) :
    vx_W p l e R s m args below meth c H locs cells slots (vx_MQ below Qc XC args s mc ms free) (F0 m pc ls rest) q := by
  intro T hT X
  obtain ⟨st1, hrun, hend, hW, hsm⟩ := X.leaveThrown q (g := F0 m pc ls rest) rfl rfl rfl hout hlocks
  have hcell9 : (T.setFrames (.throwing q :: below)).heap[q]? = some ce := by
    show T.heap[q]? = some ce
    rw [hT]; exact hcell
  exact ⟨_, st1, .threw q, hrun, hend, Or.inr ⟨q, rfl, E, ce, locs, hx _ hT hW.alike, hcell9, hv, hcl, hW, hsm.mono hc hs, hf⟩⟩
theorem vx_frame {U : State} {k n : Nat} (h : s.sameButNew ({ U with vm := s.vm } : State) locs k n) : s.heap.size ≤ U.heap.size ∧ ∀ q : Nat, q < s.heap.size → (∀ z ∈ locs, z.base ≠ q) → U.heap[q]? = s.heap[q]? := by
  obtain ⟨-, h2, -, -, -, h6⟩ := h
  refine ⟨h2, fun q hq hz => ?_⟩
  obtain ⟨c9, e1, e2, e3, e4⟩ := h6 q _ (Array.getElem?_eq_getElem hq)
  have hs : c9.slots = (s.heap[q]).slots := Array.ext_getElem? fun i => e4 i fun hm => hz _ hm rfl
  have h9 : c9 = s.heap[q] := by
    rw [hs] at e2
    exact e2
  have e5 : U.heap[q]? = some c9 := e1
  rw [e5, h9, Array.getElem?_eq_getElem hq]
/-- the words of a throw but the four that speak of the heap -/
def vx_no (w : Cond) : Bool := decide (w ≠ .isRef (.static Bundle.tN "UNASSIGNED_STACK" Bundle.steD)) && decide (w ≠ .isRef (.static Bundle.tN "SUPPRESSED_SENTINEL" Bundle.listD)) && decide (w ≠ .laysStatic Bundle.tN "UNASSIGNED_STACK" Bundle.steD) && decide (w ≠ .laysStatic Bundle.tN "SUPPRESSED_SENTINEL" Bundle.listD)
def vx_at0 (own : String) (ic : Nat) (X : String) (names : List String) : List Cond := (Bundle.ownAtoms0 own ic X names).filter vx_no
def vx_atS (own : String) (ic : Nat) (X : String) (names : List String) : List Cond := (Bundle.ownAtoms own ic X names).filter vx_no
/-- a word that the tables alone decide, or a good one -/
def vx_ot (w : Cond) : Bool := w.onTables || goodWord w
theorem vx_ot_at {args a' : Array Value} {s U : State} {w : Cond} (hW : s.WarmedH U.vm) (hvm : s.vm = U.vm) (hg : vx_ot w = true) (h : w.before args s = true) : w.before a' U = true := by
  simp only [vx_ot, Bool.or_eq_true] at hg
  rcases hg with hg | hg
  · exact va_tabs hg hvm h
  · exact word_at hW (good_of_word hg) h
/-- a list's words: the good ones out of the method's own list, the others by premises of their own -/
theorem vx_hat {args : Array Value} {s : State} {L B : List Cond} (h1 : ∀ w ∈ L.filter goodWord, w.before args s = true) (h2 : ∀ w ∈ L.filter (fun w => !goodWord w), w ∈ B) (h3 : ∀ w ∈ B, w.before args s = true) : ∀ w ∈ L, w.before args s = true := by
  intro w hw
  by_cases g : goodWord w = true
  · exact h1 w (List.mem_filter.mpr ⟨hw, g⟩)
  · refine h3 w (h2 w (List.mem_filter.mpr ⟨hw, ?_⟩))
    show (!goodWord w) = true
    cases hgw : goodWord w
    · rfl
    · exact absurd hgw g
theorem vx_c {args : Array Value} {s : State} {w : Cond} {B : List Cond} (h : w.before args s = true) (t : ∀ w ∈ B, w.before args s = true) : ∀ w' ∈ w :: B, w'.before args s = true := fun w' h' => (List.mem_cons.mp h').elim (fun e => by rw [e]; exact h) (t w')
theorem vx_n {args : Array Value} {s : State} : ∀ w ∈ ([] : List Cond), w.before args s = true := fun _ h => nomatch h
theorem vx_own {args : Array Value} {s : State} {L : List Cond} (h1 : ∀ w ∈ L.filter vx_no, w.before args s = true)
    (hU : (Cond.isRef (.static Bundle.tN "UNASSIGNED_STACK" Bundle.steD)).before args s = true) (hN : (Cond.isRef (.static Bundle.tN "SUPPRESSED_SENTINEL" Bundle.listD)).before args s = true)
    (lU : (Cond.laysStatic Bundle.tN "UNASSIGNED_STACK" Bundle.steD).before args s = true) (lN : (Cond.laysStatic Bundle.tN "SUPPRESSED_SENTINEL" Bundle.listD).before args s = true) : ∀ w ∈ L, w.before args s = true := by
  intro w hw
  by_cases e1 : w = .isRef (.static Bundle.tN "UNASSIGNED_STACK" Bundle.steD)
  · rw [e1]; exact hU
  · by_cases e2 : w = .isRef (.static Bundle.tN "SUPPRESSED_SENTINEL" Bundle.listD)
    · rw [e2]; exact hN
    · by_cases e3 : w = .laysStatic Bundle.tN "UNASSIGNED_STACK" Bundle.steD
      · rw [e3]; exact lU
      · by_cases e4 : w = .laysStatic Bundle.tN "SUPPRESSED_SENTINEL" Bundle.listD
        · rw [e4]; exact lN
        · exact h1 w (List.mem_filter.mpr ⟨hw, by unfold vx_no; rw [decide_eq_true e1, decide_eq_true e2, decide_eq_true e3, decide_eq_true e4]; rfl⟩)
/-- where a static field lies, its class's statics cell in H -/
def vx_L (C n d : String) (A : Nat → Prop) (U : State) (H : Heap) : Prop := ∃ (c : ClassId) (k : Class) (i : Nat) (f : Field) (a : Nat) (cell : Cell), U.vm.findClass C = some c ∧ U.fieldFound? C n d = some (c, k, i, f) ∧ f.isStatic = true ∧ k.statics = some a ∧ H[a]? = some cell ∧ cell.vm.isStatics = true ∧ cell.cls = c ∧ f.slot < cell.slots.size ∧ k.staticTypes[f.slot]? = some f.type ∧ ¬ A a
theorem vx_L.moved {C n d : String} {A : Nat → Prop} {u U : State} {H : Heap} (hvm : u.vm.Alike U.vm) (h : vx_L C n d A u H) : vx_L C n d A U H := by
  obtain ⟨c, k, i, f, a, cell, h1, h2, h3, h4, h5, h6, h7, h8, h9, h10⟩ := h
  obtain ⟨k', hi', he⟩ := State.fieldFound?_setVm hvm h2
  exact ⟨c, k', i, f, a, cell, by rw [hvm.findClass]; exact h1, hi', h3, by rw [he]; exact h4, h5, h6, h7, h8, by rw [he]; exact h9, h10⟩
theorem vx_L.kept {C n d : String} {A : Nat → Prop} {U : State} {H H1 : Heap} (h : vx_L C n d A U H) (hq : ∀ a : Nat, a < H.size → ¬ A a → H1[a]? = H[a]?) : vx_L C n d A U H1 := by
  obtain ⟨c, k, i, f, a, cell, h1, h2, h3, h4, h5, h6, h7, h8, h9, h10⟩ := h
  exact ⟨c, k, i, f, a, cell, h1, h2, h3, h4, by rw [hq a (Array.getElem?_eq_some_iff.mp h5).1 h10]; exact h5, h6, h7, h8, h9, h10⟩
theorem vx_L.narrow {C n d : String} {A B : Nat → Prop} {U : State} {H : Heap} (h : vx_L C n d A U H) (hAB : ∀ q, B q → A q) : vx_L C n d B U H := by
  obtain ⟨c, k, i, f, a, cell, h1, h2, h3, h4, h5, h6, h7, h8, h9, h10⟩ := h
  exact ⟨c, k, i, f, a, cell, h1, h2, h3, h4, h5, h6, h7, h8, h9, fun z => h10 (hAB _ z)⟩
theorem vx_L.word {C n d : String} {A : Nat → Prop} {s : State} {args : Array Value} (h : vx_L C n d A s s.heap) : (Cond.laysStatic C n d).before args s = true := by
  obtain ⟨c, k, i, f, a, cell, h1, h2, h3, h4, h5, h6, h7, h8, h9, -⟩ := h
  show (Cond.laysStatic C n d).holds args s none s [] = true
  exact Cond.laysStatic_of h1 h2 h3 h4 h5 h6 h7 h8 h9
/-- .. and what it holds: null or some reference -/
def vx_Zq (C n d : String) (A : Nat → Prop) (U : State) (H : Heap) : Prop := va_Zq C n d A U H ∧ vx_L C n d A U H
theorem vx_Zq.moved {C n d : String} {A : Nat → Prop} {u U : State} {H : Heap} (hvm : u.vm.Alike U.vm) (h : vx_Zq C n d A u H) : vx_Zq C n d A U H := ⟨va_Zq.moved hvm h.1, vx_L.moved hvm h.2⟩
theorem vx_Zq.kept {C n d : String} {A : Nat → Prop} {U : State} {H H1 : Heap} (h : vx_Zq C n d A U H) (hq : ∀ a : Nat, a < H.size → ¬ A a → H1[a]? = H[a]?) : vx_Zq C n d A U H1 := ⟨va_Zq.kept h.1 hq, vx_L.kept h.2 hq⟩
theorem vx_Zq.narrow {C n d : String} {A B : Nat → Prop} {U : State} {H : Heap} (h : vx_Zq C n d A U H) (hAB : ∀ q, B q → A q) : vx_Zq C n d B U H := ⟨va_Zq.narrow h.1 hAB, vx_L.narrow h.2 hAB⟩
theorem vx_Zqof {args : Array Value} {s : State} {C n d : String} {A : Nat → Prop} (hl : (Cond.laysStatic C n d).before args s = true) (hini : (Cond.initialized C).before args s = true) (h : (Cond.isRef (.static C n d)).before args s = true) (hA : ∀ a : Nat, a < s.heap.size → ¬ A a) : vx_Zq C n d A s s.heap := by
  refine ⟨va_Zqof hl hini h hA, ?_⟩
  obtain ⟨c, k, i, f, a, cell, h1, h2, h3, h4, h5, h6, h7, h8, h9⟩ := Cond.laysStatic_spec hl
  exact ⟨c, k, i, f, a, cell, h1, h2, h3, h4, h5, h6, h7, h8, h9, hA a (Array.getElem?_eq_some_iff.mp h5).1⟩
theorem vx_isRef {C n d : String} {v : Value} {A : Nat → Prop} {s : State} {args : Array Value} (h : va_Z C n d v A s s.heap) (hv : v.isRef = true) : (Cond.isRef (.static C n d)).before args s = true := by
  obtain ⟨cf, kf, fi, f, a, cell, h1, h2, h3, h4, h5, h6, h7, -⟩ := h
  have he : (Term.static C n d).eval args s none [] s = some v := by
    simp [Term.eval, State.fieldNamed?, h1, h2, h4, h5, h6, h7]
  simp only [Cond.before, Cond.holds, Cond.value, he]
  cases v <;> simp_all [Value.isRef]
theorem vx_isRefq {C n d : String} {A : Nat → Prop} {s : State} {args : Array Value} (h : va_Zq C n d A s s.heap) : (Cond.isRef (.static C n d)).before args s = true := by
  rcases h with h | ⟨t, h⟩
  · exact vx_isRef h rfl
  · exact vx_isRef h rfl
/-- the same frame, seen from here: as if the method were called anew in this heap -/
theorem vx_rebase {T : State} (X : Stand p l e R s m args below meth c T locs cells slots) {R' : Room} (hf : R'.frames ≤ R.frames) (hl : R'.locals ≤ R.locals) (hc : cells + R'.cells ≤ R.cells) (hs : slots + R'.slots ≤ R.slots) :
    Stand p l e R' ((T.setVm s.vm).setFrames (.invoking m args :: below)) m args below meth c T [] 0 0 := by
  have htop : (T.setVm s.vm).topJava?.isSome := X.here.top
  have hF : ((T.setVm s.vm).setFrames (.invoking m args :: below)).frames = .invoking m args :: below := State.frames_setFrames _ (State.cur_lt_of_top htop)
  obtain ⟨g₀, hg0⟩ := Option.isSome_iff_exists.mp htop
  obtain ⟨r, hr⟩ := State.topJava?_eq_some.mp hg0
  have hl9 : e.platform.stackLimits (T.setVm s.vm).me = e.platform.stackLimits s.me := X.limits
  have hb9 : (T.setVm s.vm).me.stackBytes = s.me.stackBytes := X.bytes
  refine ⟨X.admits, X.cas, X.clock, hF, ?_, X.hears, X.method, X.code, X.here, X.tail, X.warmed, ?_, ?_, ?_⟩
  · have h := X.room
    have hU : ((T.setVm s.vm).setFrames (.invoking m args :: below)).localsInUse = s.localsInUse := by
      rw [State.localsInUse_invoking hF (meth := meth) (c := c) X.method X.code, State.localsInUse_invoking X.frames X.method X.code]
    simp only [State.hasRoom, Bool.and_eq_true, decide_eq_true_eq] at h ⊢
    obtain ⟨⟨⟨⟨h1, h2, h3, h4, h5, h6⟩, h7⟩, h8⟩, h9⟩ := h
    rw [X.frames, List.length_cons] at h2 h3
    have q1 := X.heapSize
    have q2 := X.used
    simp only [hF, hU, List.length_cons, State.stackLimits_setFrames, State.stackBytes_setFrames, hl9, hb9]
    refine ⟨⟨⟨⟨by omega, by omega, by omega, by omega, by omega, h6⟩, ?_⟩, ?_⟩, X.book⟩
    · show T.heap.size + R'.cells ≤ e.platform.maxCells
      omega
    · show T.slotsUsed + R'.slots ≤ e.platform.maxSlots
      omega
  · rw [State.stackLimits_setFrames]; rfl
  · rw [State.stackBytes_setFrames]; rfl
  · refine ⟨?_, Nat.le_refl _, Nat.le_refl _, ?_, ?_, fun a c9 h9 => ⟨c9, h9, rfl, rfl, fun _ _ => rfl⟩⟩
    · obtain ⟨t, ht, -⟩ := State.frames_cons hr
      show T.setVm s.vm = { ((T.setVm s.vm).setFrames (.invoking m args :: below)).setFrames (T.setVm s.vm).frames with heap := T.heap, slotsUsed := T.slotsUsed }
      rw [State.setFrames_setFrames, State.setFrames_self ht]
      rfl
    · show T.slotsUsed = T.slotsUsed + ((T.heap.toList.drop T.heap.size).map (·.slots.size)).sum
      rw [List.drop_eq_nil_of_le (Nat.le_of_eq Array.length_toList)]
      rfl
    · show ((T.heap.toList.drop T.heap.size).map (·.slots.size)).sum ≤ 0
      rw [List.drop_eq_nil_of_le (Nat.le_of_eq Array.length_toList)]
      exact Nat.le_refl _
/-- 'throw new E()': new; dup; invokespecial; athrow -/
theorem vx_throw0 {cc : ByteArray} {pc : Nat} (hexec : p.tables.exec = Jvm.exec) (hb : c.code = cc) (hl : l.stackTraces = false) {own cls : String} {names : List String} {ik ic mc ms : Nat} {A : Nat → Prop}
    (hown : s.vm.findClass own = some m.cls) (hcls : Bundle.fit cls = true) (hnames : ∀ n ∈ names, Bundle.fit n = true)
    (hk : (Cond.classLink own ik cls).before args s = true) (hini : (Cond.initialized cls).before args s = true) (hat : ∀ w ∈ vx_at0 own ic cls names, w.before args s = true)
    (hgood : ∀ w ∈ Cond.classLink own ik cls :: Cond.initialized cls :: vx_at0 own ic cls names, vx_ot w = true)
    (hU : vx_Zq Bundle.tN "UNASSIGNED_STACK" Bundle.steD A s s.heap) (hN : vx_Zq Bundle.tN "SUPPRESSED_SENTINEL" Bundle.listD A s s.heap) (hS : va_S A s.heap H locs) (hsize : ls.size = c.maxLocals)
    (d0 : decode cc pc = .ok (.new ik, 3)) (d3 : decode cc (pc + 3) = .ok (.dup, 1)) (d4 : decode cc (pc + 4) = .ok (.invokespecial ic, 3)) (d7 : decode cc (pc + 7) = .ok (.athrow, 1))
    (hout : ∀ x ∈ c.exceptionTable.toList, covers x (pc + 7) = false)
    (hRframes : names.length + 3 < R.frames) (hRlocals : (rest.map fun v => v.category).sum + (13 * (names.length + 1) + 42) ≤ R.locals) (hRcells : cells + 1 ≤ R.cells) (hRslots : slots + 6 ≤ R.slots) (hlocks : meth.locks = false)
    (hx : ∀ t : State, s.vm.Alike t.vm → H.size ≤ t.heap.size → (∀ q : Nat, q < H.size → t.heap[q]? = H[q]?) → XC cls s t)
    (hf : ∀ z ∈ locs, free z.base) (hc : cells + 1 ≤ mc) (hs : slots + 6 ≤ ms) :
    W p l e R s m args below meth c H locs cells slots (vx_MQ below Qc XC args s mc ms free) (F0 m pc ls rest) := by
  intro T hT X
  have htr : e.platform.stackTraces = false := (show e.platform.stackTraces = l.stackTraces by rw [X.admits.platform]).trans hl
  have Y := vx_rebase X (R' := { frames := R.frames, locals := R.locals, cells := 1, slots := 6 }) (Nat.le_refl _) (Nat.le_refl _) hRcells hRslots
  obtain ⟨s', hA⟩ : ∃ z, z = (T.setVm s.vm).setFrames (.invoking m args :: below) := ⟨_, rfl⟩
  rw [← hA] at Y
  have hvm : s'.vm = s.vm := by rw [hA]; rfl
  have hhp : s'.heap = H := by rw [hA]; exact hT
  have hW0 : s.WarmedH s'.vm := by rw [hvm]; exact State.WarmedH.refl s
  have hat' : ∀ w ∈ vx_at0 own ic cls names, w.before args s' = true := fun w hw => vx_ot_at hW0 hvm.symm (hgood w (List.mem_cons_of_mem _ (List.mem_cons_of_mem _ hw))) (hat w hw)
  have hk' : (Cond.classLink own ik cls).before args s' = true := vx_ot_at hW0 hvm.symm (hgood _ List.mem_cons_self) hk
  have hini' : (Cond.initialized cls).before args s' = true := vx_ot_at hW0 hvm.symm (hgood _ (List.mem_cons_of_mem _ List.mem_cons_self)) hini
  have hU' : vx_Zq Bundle.tN "UNASSIGNED_STACK" Bundle.steD A s' s'.heap := by rw [hhp]; exact vx_Zq.moved hW0.alike (hU.kept hS.2.1)
  have hN' : vx_Zq Bundle.tN "SUPPRESSED_SENTINEL" Bundle.listD A s' s'.heap := by rw [hhp]; exact vx_Zq.moved hW0.alike (hN.kept hS.2.1)
  have h : ∀ w ∈ Bundle.ownAtoms0 own ic cls names, w.before args s' = true := vx_own hat' (vx_isRefq hU'.1) (vx_isRefq hN'.1) hU'.2.word hN'.2.word
  have hown' : s'.vm.findClass own = some m.cls := by rw [hvm]; exact hown
  have hins : (Cond.instantiable cls 6).before args s' = true := h _ (by simp [Bundle.ownAtoms0])
  obtain ⟨vm₁, cX, kX, hfX, hkX, -, -, X₁, st1⟩ := Y.newCold hexec (own := own) (C := cls) (index := ik) (n := 6) hown' hk' hins hini'
    (g := F0 m pc ls rest) rfl (by rw [hb]; exact d0) (Nat.le_refl _) (Nat.le_refl _)
  generalize hT1 : (T.setVm vm₁).pushCell { cls := cX, slots := kX.instanceTypes.map defaultValue, vm := .none } = T1 at X₁ st1
  have hcat : (Value.ref T.heap.size).category = 1 := rfl
  have hcellA : T1.heap[T.heap.size]? = some (freshCell cX kX) := by rw [← hT1]; exact State.heap_pushCell_size _ _
  have d3' : decode c.code (pc + 3) = .ok (.dup, 1) := by rw [hb]; exact d3
  obtain ⟨U, hsteps, hrun, hend, hW, hsame, ce, hce, hO⟩ := X₁.ctorThrow0 hexec htr (own := own) (cls := cls) (names := names) (ic := ic) hown' hcls hnames h (fun x hx => nomatch hx) hfX hkX hcellA (by rw [hhp, hT]; exact Nat.le_refl _)
    (g := { method := m, pc := pc + 4, locals := ls, stack := .ref T.heap.size :: .ref T.heap.size :: rest, locked := none }) rfl hsize rfl rfl (rest := rest) rfl
    (by rw [hb]; exact d4) (by rw [hb]; exact d7) hout hRframes (by simp only [List.map_cons, List.sum_cons, hcat]; omega) hlocks
  obtain ⟨f1, f2⟩ := vx_frame hsame
  rw [hhp] at f1 f2
  have hWs : s.WarmedH U.vm := State.WarmedH.trans hW0 hW
  have hcl : s.vm.findClass cls = some ce.cls := by
    have h9 := hO.cls
    rw [hvm] at h9
    exact h9
  have hall : s.sameButNew ({ U with vm := s.vm } : State) locs mc ms := by
    subst hA
    obtain ⟨e1, e2⟩ := hsame
    rw [State.setFrames_setFrames] at e1
    have h2 : (T.setVm s.vm).sameButNew ({ U with vm := s.vm } : State) [] (0 + 1) (0 + 6) := ⟨e1, e2⟩
    have h3 := X.same.trans h2
    rw [List.append_nil] at h3
    exact h3.mono hc hs
  refine ⟨U, ?_, .threw T.heap.size, hrun, hend, Or.inr ⟨T.heap.size, rfl, cls, ce, locs, hx U hWs.alike f1 (fun q hq => f2 q hq (fun z hz => nomatch hz)), hce, hO.vm, hcl, hWs, hall, hf⟩⟩
  refine st1 _ ?_
  show Steps p.tables e below (T1.setTop { method := m, pc := pc + 3, locals := ls, stack := .ref T.heap.size :: rest, locked := none }) _
  jvm_step X₁.here [X₁.here.top, hexec, d3', Value.category]
  exact hsteps
/-- 'throw new E("text")': new; dup; ldc; invokespecial; athrow -/
theorem vx_throwS {cc : ByteArray} {pc : Nat} (hexec : p.tables.exec = Jvm.exec) (hb : c.code = cc) (hl : l.stackTraces = false) {own cls text : String} {names : List String} {ik is ic mc ms sa : Nat} {A : Nat → Prop}
    (hown : s.vm.findClass own = some m.cls) (hcls : Bundle.fit cls = true) (hnames : ∀ n ∈ names, Bundle.fit n = true)
    (hk : (Cond.classLink own ik cls).before args s = true) (hini : (Cond.initialized cls).before args s = true) (hstr : vk_R own is text sa s) (hat : ∀ w ∈ vx_atS own ic cls names, w.before args s = true)
    (hgood : ∀ w ∈ Cond.classLink own ik cls :: Cond.initialized cls :: vx_atS own ic cls names, vx_ot w = true)
    (hU : vx_Zq Bundle.tN "UNASSIGNED_STACK" Bundle.steD A s s.heap) (hN : vx_Zq Bundle.tN "SUPPRESSED_SENTINEL" Bundle.listD A s s.heap) (hS : va_S A s.heap H locs) (hsize : ls.size = c.maxLocals)
    (d0 : decode cc pc = .ok (.new ik, 3)) (d3 : decode cc (pc + 3) = .ok (.dup, 1)) (d4 : decode cc (pc + 4) = .ok (.ldc is, 2)) (d6 : decode cc (pc + 6) = .ok (.invokespecial ic, 3)) (d9 : decode cc (pc + 9) = .ok (.athrow, 1))
    (hout : ∀ x ∈ c.exceptionTable.toList, covers x (pc + 9) = false)
    (hRframes : names.length + 3 < R.frames) (hRlocals : (rest.map fun v => v.category).sum + (13 * (names.length + 1) + 43) ≤ R.locals) (hRcells : cells + 1 ≤ R.cells) (hRslots : slots + 6 ≤ R.slots) (hlocks : meth.locks = false)
    (hx : ∀ t : State, s.vm.Alike t.vm → H.size ≤ t.heap.size → (∀ q : Nat, q < H.size → t.heap[q]? = H[q]?) → XC cls s t)
    (hf : ∀ z ∈ locs, free z.base) (hc : cells + 1 ≤ mc) (hs : slots + 6 ≤ ms) :
    W p l e R s m args below meth c H locs cells slots (vx_MQ below Qc XC args s mc ms free) (F0 m pc ls rest) := by
  intro T hT X
  have htr : e.platform.stackTraces = false := (show e.platform.stackTraces = l.stackTraces by rw [X.admits.platform]).trans hl
  have Y := vx_rebase X (R' := { frames := R.frames, locals := R.locals, cells := 1, slots := 6 }) (Nat.le_refl _) (Nat.le_refl _) hRcells hRslots
  obtain ⟨s', hA⟩ : ∃ z, z = (T.setVm s.vm).setFrames (.invoking m args :: below) := ⟨_, rfl⟩
  rw [← hA] at Y
  have hvm : s'.vm = s.vm := by rw [hA]; rfl
  have hhp : s'.heap = H := by rw [hA]; exact hT
  have hW0 : s.WarmedH s'.vm := by rw [hvm]; exact State.WarmedH.refl s
  have hat' : ∀ w ∈ vx_atS own ic cls names, w.before args s' = true := fun w hw => vx_ot_at hW0 hvm.symm (hgood w (List.mem_cons_of_mem _ (List.mem_cons_of_mem _ hw))) (hat w hw)
  have hk' : (Cond.classLink own ik cls).before args s' = true := vx_ot_at hW0 hvm.symm (hgood _ List.mem_cons_self) hk
  have hini' : (Cond.initialized cls).before args s' = true := vx_ot_at hW0 hvm.symm (hgood _ (List.mem_cons_of_mem _ List.mem_cons_self)) hini
  have hU' : vx_Zq Bundle.tN "UNASSIGNED_STACK" Bundle.steD A s' s'.heap := by rw [hhp]; exact vx_Zq.moved hW0.alike (hU.kept hS.2.1)
  have hN' : vx_Zq Bundle.tN "SUPPRESSED_SENTINEL" Bundle.listD A s' s'.heap := by rw [hhp]; exact vx_Zq.moved hW0.alike (hN.kept hS.2.1)
  have h : ∀ w ∈ Bundle.ownAtoms own ic cls names, w.before args s' = true := vx_own hat' (vx_isRefq hU'.1) (vx_isRefq hN'.1) hU'.2.word hN'.2.word
  have hown' : s'.vm.findClass own = some m.cls := by rw [hvm]; exact hown
  have hins : (Cond.instantiable cls 6).before args s' = true := h _ (by simp [Bundle.ownAtoms])
  obtain ⟨vm₁, cX, kX, hfX, hkX, -, -, X₁, st1⟩ := Y.newCold hexec (own := own) (C := cls) (index := ik) (n := 6) hown' hk' hins hini'
    (g := F0 m pc ls rest) rfl (by rw [hb]; exact d0) (Nat.le_refl _) (Nat.le_refl _)
  generalize hT1 : (T.setVm vm₁).pushCell { cls := cX, slots := kX.instanceTypes.map defaultValue, vm := .none } = T1 at X₁ st1
  have hcat : (Value.ref T.heap.size).category = 1 := rfl
  have hcellA : T1.heap[T.heap.size]? = some (freshCell cX kX) := by rw [← hT1]; exact State.heap_pushCell_size _ _
  have d3' : decode c.code (pc + 3) = .ok (.dup, 1) := by rw [hb]; exact d3
  have d4' : decode c.code (pc + 4) = .ok (.ldc is, 2) := by rw [hb]; exact d4
  have hstr' : vk_R own is text sa s' := vk_R.warm hW0 hstr
  obtain ⟨U, hsteps, hrun, hend, hW, hsame, ce, hce, hO⟩ := X₁.ctorThrowS hexec htr (own := own) (cls := cls) (names := names) (ic := ic) hown' hcls hnames h (fun x hx => nomatch hx) hfX hkX hcellA (by rw [hhp, hT]; exact Nat.le_refl _) (msg := .ref sa) rfl
    (g := { method := m, pc := pc + 6, locals := ls, stack := .ref sa :: .ref T.heap.size :: .ref T.heap.size :: rest, locked := none }) rfl hsize rfl rfl (rest := rest) rfl
    (by rw [hb]; exact d6) (by rw [hb]; exact d9) hout hRframes (by simp only [List.map_cons, List.sum_cons, hcat]; omega) hlocks
  obtain ⟨f1, f2⟩ := vx_frame hsame
  rw [hhp] at f1 f2
  have hWs : s.WarmedH U.vm := State.WarmedH.trans hW0 hW
  have hcl : s.vm.findClass cls = some ce.cls := by
    have h9 := hO.cls
    rw [hvm] at h9
    exact h9
  have hall : s.sameButNew ({ U with vm := s.vm } : State) locs mc ms := by
    subst hA
    obtain ⟨e1, e2⟩ := hsame
    rw [State.setFrames_setFrames] at e1
    have h2 : (T.setVm s.vm).sameButNew ({ U with vm := s.vm } : State) [] (0 + 1) (0 + 6) := ⟨e1, e2⟩
    have h3 := X.same.trans h2
    rw [List.append_nil] at h3
    exact h3.mono hc hs
  refine ⟨U, ?_, .threw T.heap.size, hrun, hend, Or.inr ⟨T.heap.size, rfl, cls, ce, locs, hx U hWs.alike f1 (fun q hq => f2 q hq (fun z hz => nomatch hz)), hce, hO.vm, hcl, hWs, hall, hf⟩⟩
  refine st1 _ ?_
  show Steps p.tables e below (T1.setTop { method := m, pc := pc + 3, locals := ls, stack := .ref T.heap.size :: rest, locked := none }) _
  jvm_step X₁.here [X₁.here.top, hexec, d3', Value.category]
  exact X₁.ldcString hexec (own := own) (text := text) (index := is) (a := sa) hown' hstr'.1 hstr'.2
    (g := { method := m, pc := pc + 4, locals := ls, stack := .ref T.heap.size :: .ref T.heap.size :: rest, locked := none }) rfl d4' _ hsteps
/-- 'throw new E("text")', the text by a wide index -/
theorem vx_throwSW {cc : ByteArray} {pc : Nat} (hexec : p.tables.exec = Jvm.exec) (hb : c.code = cc) (hl : l.stackTraces = false) {own cls text : String} {names : List String} {ik is ic mc ms sa : Nat} {A : Nat → Prop}
    (hown : s.vm.findClass own = some m.cls) (hcls : Bundle.fit cls = true) (hnames : ∀ n ∈ names, Bundle.fit n = true)
    (hk : (Cond.classLink own ik cls).before args s = true) (hini : (Cond.initialized cls).before args s = true) (hstr : vk_R own is text sa s) (hat : ∀ w ∈ vx_atS own ic cls names, w.before args s = true)
    (hgood : ∀ w ∈ Cond.classLink own ik cls :: Cond.initialized cls :: vx_atS own ic cls names, vx_ot w = true)
    (hU : vx_Zq Bundle.tN "UNASSIGNED_STACK" Bundle.steD A s s.heap) (hN : vx_Zq Bundle.tN "SUPPRESSED_SENTINEL" Bundle.listD A s s.heap) (hS : va_S A s.heap H locs) (hsize : ls.size = c.maxLocals)
    (d0 : decode cc pc = .ok (.new ik, 3)) (d3 : decode cc (pc + 3) = .ok (.dup, 1)) (d4 : decode cc (pc + 4) = .ok (.ldc_w is, 3)) (d7 : decode cc (pc + 7) = .ok (.invokespecial ic, 3)) (d10 : decode cc (pc + 10) = .ok (.athrow, 1))
    (hout : ∀ x ∈ c.exceptionTable.toList, covers x (pc + 10) = false)
    (hRframes : names.length + 3 < R.frames) (hRlocals : (rest.map fun v => v.category).sum + (13 * (names.length + 1) + 43) ≤ R.locals) (hRcells : cells + 1 ≤ R.cells) (hRslots : slots + 6 ≤ R.slots) (hlocks : meth.locks = false)
    (hx : ∀ t : State, s.vm.Alike t.vm → H.size ≤ t.heap.size → (∀ q : Nat, q < H.size → t.heap[q]? = H[q]?) → XC cls s t)
    (hf : ∀ z ∈ locs, free z.base) (hc : cells + 1 ≤ mc) (hs : slots + 6 ≤ ms) :
    W p l e R s m args below meth c H locs cells slots (vx_MQ below Qc XC args s mc ms free) (F0 m pc ls rest) := by
  intro T hT X
  have htr : e.platform.stackTraces = false := (show e.platform.stackTraces = l.stackTraces by rw [X.admits.platform]).trans hl
  have Y := vx_rebase X (R' := { frames := R.frames, locals := R.locals, cells := 1, slots := 6 }) (Nat.le_refl _) (Nat.le_refl _) hRcells hRslots
  obtain ⟨s', hA⟩ : ∃ z, z = (T.setVm s.vm).setFrames (.invoking m args :: below) := ⟨_, rfl⟩
  rw [← hA] at Y
  have hvm : s'.vm = s.vm := by rw [hA]; rfl
  have hhp : s'.heap = H := by rw [hA]; exact hT
  have hW0 : s.WarmedH s'.vm := by rw [hvm]; exact State.WarmedH.refl s
  have hat' : ∀ w ∈ vx_atS own ic cls names, w.before args s' = true := fun w hw => vx_ot_at hW0 hvm.symm (hgood w (List.mem_cons_of_mem _ (List.mem_cons_of_mem _ hw))) (hat w hw)
  have hk' : (Cond.classLink own ik cls).before args s' = true := vx_ot_at hW0 hvm.symm (hgood _ List.mem_cons_self) hk
  have hini' : (Cond.initialized cls).before args s' = true := vx_ot_at hW0 hvm.symm (hgood _ (List.mem_cons_of_mem _ List.mem_cons_self)) hini
  have hU' : vx_Zq Bundle.tN "UNASSIGNED_STACK" Bundle.steD A s' s'.heap := by rw [hhp]; exact vx_Zq.moved hW0.alike (hU.kept hS.2.1)
  have hN' : vx_Zq Bundle.tN "SUPPRESSED_SENTINEL" Bundle.listD A s' s'.heap := by rw [hhp]; exact vx_Zq.moved hW0.alike (hN.kept hS.2.1)
  have h : ∀ w ∈ Bundle.ownAtoms own ic cls names, w.before args s' = true := vx_own hat' (vx_isRefq hU'.1) (vx_isRefq hN'.1) hU'.2.word hN'.2.word
  have hown' : s'.vm.findClass own = some m.cls := by rw [hvm]; exact hown
  have hins : (Cond.instantiable cls 6).before args s' = true := h _ (by simp [Bundle.ownAtoms])
  obtain ⟨vm₁, cX, kX, hfX, hkX, -, -, X₁, st1⟩ := Y.newCold hexec (own := own) (C := cls) (index := ik) (n := 6) hown' hk' hins hini'
    (g := F0 m pc ls rest) rfl (by rw [hb]; exact d0) (Nat.le_refl _) (Nat.le_refl _)
  generalize hT1 : (T.setVm vm₁).pushCell { cls := cX, slots := kX.instanceTypes.map defaultValue, vm := .none } = T1 at X₁ st1
  have hcat : (Value.ref T.heap.size).category = 1 := rfl
  have hcellA : T1.heap[T.heap.size]? = some (freshCell cX kX) := by rw [← hT1]; exact State.heap_pushCell_size _ _
  have d3' : decode c.code (pc + 3) = .ok (.dup, 1) := by rw [hb]; exact d3
  have d4' : decode c.code (pc + 4) = .ok (.ldc_w is, 3) := by rw [hb]; exact d4
  have hstr' : vk_R own is text sa s' := vk_R.warm hW0 hstr
  obtain ⟨U, hsteps, hrun, hend, hW, hsame, ce, hce, hO⟩ := X₁.ctorThrowS hexec htr (own := own) (cls := cls) (names := names) (ic := ic) hown' hcls hnames h (fun x hx => nomatch hx) hfX hkX hcellA (by rw [hhp, hT]; exact Nat.le_refl _) (msg := .ref sa) rfl
    (g := { method := m, pc := pc + 7, locals := ls, stack := .ref sa :: .ref T.heap.size :: .ref T.heap.size :: rest, locked := none }) rfl hsize rfl rfl (rest := rest) rfl
    (by rw [hb]; exact d7) (by rw [hb]; exact d10) hout hRframes (by simp only [List.map_cons, List.sum_cons, hcat]; omega) hlocks
  obtain ⟨f1, f2⟩ := vx_frame hsame
  rw [hhp] at f1 f2
  have hWs : s.WarmedH U.vm := State.WarmedH.trans hW0 hW
  have hcl : s.vm.findClass cls = some ce.cls := by
    have h9 := hO.cls
    rw [hvm] at h9
    exact h9
  have hall : s.sameButNew ({ U with vm := s.vm } : State) locs mc ms := by
    subst hA
    obtain ⟨e1, e2⟩ := hsame
    rw [State.setFrames_setFrames] at e1
    have h2 : (T.setVm s.vm).sameButNew ({ U with vm := s.vm } : State) [] (0 + 1) (0 + 6) := ⟨e1, e2⟩
    have h3 := X.same.trans h2
    rw [List.append_nil] at h3
    exact h3.mono hc hs
  refine ⟨U, ?_, .threw T.heap.size, hrun, hend, Or.inr ⟨T.heap.size, rfl, cls, ce, locs, hx U hWs.alike f1 (fun q hq => f2 q hq (fun z hz => nomatch hz)), hce, hO.vm, hcl, hWs, hall, hf⟩⟩
  refine st1 _ ?_
  show Steps p.tables e below (T1.setTop { method := m, pc := pc + 3, locals := ls, stack := .ref T.heap.size :: rest, locked := none }) _
  jvm_step X₁.here [X₁.here.top, hexec, d3', Value.category]
  exact X₁.ldcStringW hexec (own := own) (text := text) (index := is) (a := sa) hown' hstr'.1 hstr'.2
    (g := { method := m, pc := pc + 4, locals := ls, stack := .ref T.heap.size :: .ref T.heap.size :: rest, locked := none }) rfl d4' _ hsteps
end Ends
section Bodies
variable {l : Launch}
theorem vx_ofW {y : MethodName} {ws ws' : List Cond} {rm : Room} {Pc : Array Value → State → Prop} {Qc : Array Value → State → Outcome → State → Prop} {XC : String → State → State → Prop} {mc ms : Nat} {free : Addr → Prop} {cc : ByteArray} {maxL : Nat} {ret : Option FieldType}
    (hy : plainName y.cls = true) (hw : ws = Cond.code y cc maxL ret :: ws')
    (body : ∀ p e s m args below meth c s₁, BodyLoose p l y (headSpec ws rm) cc maxL ret e s m args below meth c s₁ → c.maxLocals = maxL → (∀ x ∈ c.exceptionTable.toList, False) → Pc args s →
      W p l e (headSpec ws rm).room s m args below meth c s.heap [] 0 0 (vx_MQ below Qc XC args s mc ms free) (entryFrame m args maxL)) : vx_Met l y ws rm Pc Qc XC mc ms free := by
  refine MetFree.of_bodyS (code := cc) (maxLocals := maxL) (ret := ret) hy ?_ ?_
  · intro args s m h hn
    obtain ⟨meth, c, h1, h2, h3, h4, h5, h6, -, -⟩ := Cond.code_spec hn (atoms_spec (ws := ws) h _ (by rw [hw]; exact List.mem_cons_self))
    exact ⟨meth, c, h1, h2, h3, h4, h5, h6⟩
  · intro p e s m args below meth c s₁ B hml hP _
    have hh0 : s₁.heap = s.heap := by rw [B.state]; rfl
    have ht : ∀ x ∈ c.exceptionTable.toList, False := by
      obtain ⟨meth9, c9, h1, h2, -, -, -, -, h7, -⟩ := Cond.code_spec B.named (atoms_spec (ws := ws) B.pre _ (by rw [hw]; exact List.mem_cons_self))
      cases Option.some.inj (h1.symm.trans B.method)
      cases Option.some.inj (h2.symm.trans (Stand.of_body B).code)
      intro x hx
      rw [Array.isEmpty_iff.mp h7] at hx
      cases hx
    obtain ⟨t, a1, o, b1, b2, b3⟩ := body p e s m args below meth c s₁ B hml ht hP s₁ hh0 (Stand.of_body B)
    exact ⟨t, o, a1, b1, b2, b3⟩
/-- the table of a body with handlers -/
theorem vx_table {p : Program} {x y : MethodName} {S : Spec} {cc bytes : ByteArray} {maxL maxL' : Nat} {ret ret' : Option FieldType} {e : Env} {s s₁ : State} {m : MethodId} {args : Array Value} {below : List Frame} {meth : Method} {c : Code} {hh : List (Nat × Nat × Nat × Nat)}
    (B : BodyLoose p l y S cc maxL ret e s m args below meth c s₁) (h : (Cond.codeWith y bytes maxL' ret' hh).before args s = true) : c.exceptionTable.toList = tableOf hh := by
  obtain ⟨m9, meth9, c9, hn9, h1, h2, -, -, h6, -⟩ := Cond.codeWith_spec h
  cases Option.some.inj (hn9.symm.trans B.named)
  cases Option.some.inj (h1.symm.trans B.method)
  cases Option.some.inj (h2.symm.trans (Stand.of_body B).code)
  rw [← h6, table_eq]
end Bodies
end VXA
/-! ===== END ===== -/
/-! ===== BEGIN a static call of a method with an exception table ===== -/
section VXS
variable {p : Program} {l : Launch} {e : Env} {R : Room} {s : State} {m : MethodId} {args : Array Value} {below : List Frame} {meth : Method} {c : Code} {T : State} {H : Heap} {locs : List Loc} {cells slots : Nat}
abbrev vx_CSW (R : Room) (s : State) (args : Array Value) (own : String) (index : Nat) (y : MethodName) (bytes : ByteArray) (maxL : Nat) (ret : Option FieldType) (hh : List (Nat × Nat × Nat × Nat)) (ws : List Cond) (rm : Room) (mc ms n : Nat) : Prop :=
  (rm.cells = mc ∧ rm.slots = ms ∧ rm.frames + 1 ≤ R.frames ∧ 8 + (maxL + 11) + rm.locals ≤ R.locals ∧ (∀ w ∈ ws, ∀ (a' : Array Value) (U : State), s.WarmedH U.vm → w.before a' U = true) ∧ Cond.codeWith y bytes maxL ret hh ∈ ws) ∧
  (Cond.codeWith y bytes maxL ret hh).before args s = true ∧ (Cond.initialized y.cls).before args s = true ∧ (y.cls ≠ "java/lang/invoke/MethodHandle" ∧ y.cls ≠ "java/lang/invoke/VarHandle") ∧
  (∀ sig, parseMethodDescriptor y.desc = some sig → n = sig.parameters.length) ∧ (Cond.methodLink own index y).before args s = true ∧ (Cond.static y).before args s = true
theorem vx_cwSW {own : String} {index maxL mc ms : Nat} {y : MethodName} {bytes : ByteArray} {ret : Option FieldType} {hh : List (Nat × Nat × Nat × Nat)} {Ts ws ws' : List Cond} {rm : Room} (n : Nat) (ht : ∀ w ∈ Ts, w.before args s = true) (hT : GoodIn Ts (va_wsS own index y ws)) (hw : ws = Cond.codeWith y bytes maxL ret hh :: ws') (hrc : rm.cells = mc) (hrs : rm.slots = ms)
    (hd : y.cls ≠ "java/lang/invoke/MethodHandle" ∧ y.cls ≠ "java/lang/invoke/VarHandle" ∧ (parseMethodDescriptor y.desc).map (fun d => d.parameters.length) = some n) (hR : rm.frames + 1 ≤ R.frames ∧ 8 + (maxL + 11) + rm.locals ≤ R.locals) :
    vx_CSW R s args own index y bytes maxL ret hh ws rm mc ms n := by
  have ok : ∀ w ∈ va_wsS own index y ws, w.before args s = true := fun w h => ht w (hT w h).1
  have hG : GoodIn Ts ws := fun w h => hT w (by unfold va_wsS; exact List.mem_append_right _ h)
  have hc : Cond.codeWith y bytes maxL ret hh ∈ ws := by rw [hw]; exact List.mem_cons_self
  refine ⟨⟨hrc, hrs, hR.1, hR.2, pay_in ht hG, hc⟩, ht _ (hG _ hc).1, ok _ (by simp [va_wsS]), ⟨hd.1, hd.2.1⟩, fun sig h => ?_, ok _ (by simp [va_wsS]), ok _ (by simp [va_wsS])⟩
  have h2 := hd.2.2
  rw [h] at h2
  exact (Option.some.inj h2).symm
theorem vx_callSW (X : Stand p l e R s m args below meth c T locs cells slots) (hexec : p.tables.exec = Jvm.exec) {own : String} {index : Nat} {y : MethodName} {bytes : ByteArray} {maxL : Nat} {ret : Option FieldType} {hh : List (Nat × Nat × Nat × Nat)}
    (hown : s.vm.findClass own = some m.cls) (hlink : (Cond.methodLink own index y).before args s = true) (hstat : (Cond.static y).before args s = true) (hinit : (Cond.initialized y.cls).before args s = true)
    (hcode : (Cond.codeWith y bytes maxL ret hh).before args s = true) (hy : y.cls ≠ "java/lang/invoke/MethodHandle" ∧ y.cls ≠ "java/lang/invoke/VarHandle")
    {W9 : Nat} {Pre : Pt → Array Value → Prop} {Post : Pt → Array Value → Option Value → Pt → Prop} (hK : Back l R p e below s args y 3 W9 Pre Post)
    {g : JFrame} (hg : g.method = m) (hsize : g.locals.size = c.maxLocals) {argsL rest : List Value} (hlen : ∀ sig, parseMethodDescriptor y.desc = some sig → argsL.length = sig.parameters.length)
    (hstack : g.stack = argsL.reverse ++ rest) (hW : 2 * g.monitorRoom + (rest.map fun v => v.category).sum ≤ W9) (hdg : decode c.code g.pc = .ok (.invokestatic index, 3))
    (hpre : ∀ vm₁, s.WarmedH vm₁ → Pre ⟨T.setVm vm₁, locs, cells, slots⟩ argsL.toArray) :
    ∃ (v : Option Value) (vm₁ : Vm) (B : Pt), s.WarmedH vm₁ ∧ Stand p l e R s m args below meth c B.U B.locs B.cells B.slots ∧ Post ⟨T.setVm vm₁, locs, cells, slots⟩ argsL.toArray v B ∧
      ∀ target, Steps p.tables e below (B.U.setTop { g with pc := g.pc + 3, stack := v.toList ++ rest }) target → Steps p.tables e below (T.setTop g) target := by
  obtain ⟨mk, methM, cM, hnamed, hmethM, -, -, -, -, -, -, hsigM⟩ := Cond.codeWith_spec hcode
  have hstatic : methM.isStatic = true := Cond.static_spec hnamed hmethM hstat
  obtain ⟨kP, hkP, -⟩ := className_of_methodNamed hnamed
  have hinitP : kP.init = .initialized := Cond.initialized_spec (findClass_of_methodNamed hnamed) hkP hinit
  obtain ⟨vm₁, X₁, hstep₁⟩ := X.invokestatic hexec hown hlink hnamed hmethM hstatic hkP hinitP hy (g := g) hg (argsL := argsL) (rest := rest) (hlen _ hsigM) hstack hdg
  obtain ⟨v, B, X', hpost, hsteps⟩ := hK m meth c ⟨T.setVm vm₁, locs, cells, slots⟩ { g with stack := rest } (.invokestatic index) mk argsL.toArray X₁ hg hsize hdg hW (X₁.named hnamed) (hpre vm₁ X₁.warmed)
  exact ⟨v, vm₁, B, X₁.warmed, X', hpost, fun target h => hstep₁ _ fun acts => by rw [doInvoke_state]; exact hsteps.trans h⟩
theorem vx_runSW {y : MethodName} {bytes cc : ByteArray} {maxL nL mc ms n index : Nat} {ret : Option FieldType} {hh : List (Nat × Nat × Nat × Nat)} {ws : List Cond} {rm : Room} {Pc : Array Value → State → Prop} {Qc : Array Value → State → Outcome → State → Prop} {free : Addr → Prop} {Ts : List Cond} {own : String} {As rest : List Value} {g : JFrame}
    (S : CallFix p m c cc nL s args Ts own) (hM : Met l y ws rm Pc Qc mc ms free) (cw : vx_CSW R s args own index y bytes maxL ret hh ws rm mc ms n) (hp : PreS s H Pc As)
    (hg : g.method = m) (hn : As.length = n) (hsize : g.locals.size = nL) (hstack : g.stack = As.reverse ++ rest) (hW : 2 * g.monitorRoom + (rest.map fun v => v.category).sum ≤ 8) (hdg : decode cc g.pc = .ok (.invokestatic index, 3)) (hf : cells + mc ≤ R.cells ∧ slots + ms ≤ R.slots) :
    va_Run p l e R s m args below meth c H locs cells slots mc ms g rest (Qc As.toArray) (free) := by
  obtain ⟨⟨hrc, hrs, hfr, hlo, hws, hcw⟩, hcode, hini, hy, hlen, hl, hstt⟩ := cw
  have hK : Back l R p e below s args y 3 8 (PreOf R mc ms Pc) (PostOf Qc mc ms free) := va_backW (hh := hh) (bytes := bytes) (maxL := maxL) (ret := ret) hM hp.1 hrc hrs hfr hlo hws hcw (fun a' U hW => word_at hW (Or.inl (by first | rfl | simp [Cond.onTables, Cond.keeps, Cond.steady])) hini)
  obtain ⟨hx, hb, hml, ho, -⟩ := S
  intro T hT X
  obtain ⟨v, vm₁, ⟨U', l2, c2, s2⟩, hW₁, X', ⟨g', mk, t, L, e1, e2, hq, h1, hL, h2, h3⟩, st⟩ := vx_callSW X hx (hh := hh) (bytes := bytes) (maxL := maxL) (ret := ret) ho hl hstt hini hcode hy hK hg (hsize.trans hml.symm) (argsL := As) (rest := rest) (fun sig h => hn.trans (hlen sig h)) hstack hW (by rw [hb]; exact hdg)
    (fun vm₁ hW₁ => ⟨hf.1, hf.2, hp.2 (T.setVm vm₁) hT hW₁⟩)
  dsimp only [Pt.U, Pt.locs, Pt.cells, Pt.slots] at X' e1 e2 h1 h2 h3 st
  subst h1; subst h2; subst h3
  exact ⟨v, (T.setVm vm₁).calling g' mk As.toArray, t, U', L, hT, X', hL, e1, e2, hq, st⟩
/-- not caught here, past rows that name other classes: it goes on to the caller -/
theorem vx_lt {D : va_G} {cl : List vw_C} {ws : va_W} {H1 : Heap} (h : va_P D cl ws H1) {k : Nat} {q : Nat × va_E} (hk : ws[k]? = some q) : q.1 < H1.size := (h k q hk).lt
end VXS
/-! ===== END ===== -/
/-! ===== BEGIN methods with a table of their own: called by a name, returning or throwing ===== -/
section VXH
/-! vx_backW, vx_callVX, vx_callSX, vx_callVW, vx_runVW, vx_runVX, vx_runSX, vx_ofWH follow the same proofs as their sisters above (Free/Laws.lean, Shelf42/LK1.lean); vx_outP calls Shelf42/NT130.lean (outThrough). -/
section
variable {l : Launch} {R : Room} {p : Program} {e : Env} {below : List Frame} {s : State} {sargs : Array Value} {y : MethodName} {len W9 : Nat}
theorem vx_backW {ws : List Cond} {rm : Room} {Pc : Array Value → State → Prop} {Qc : Array Value → State → Outcome → State → Prop} {XC : String → State → State → Prop} {mc ms : Nat} {free : Addr → Prop} {bytes : ByteArray} {maxL : Nat} {ret : Option FieldType} {hh : List (Nat × Nat × Nat × Nat)}
    (hM : vx_Met l y ws rm Pc Qc XC mc ms free) (hblind : FrameBlind Pc) (hrc : rm.cells = mc) (hrs : rm.slots = ms)
    (hframes : rm.frames + 1 ≤ R.frames) (hlocals : W9 + (maxL + 11) + rm.locals ≤ R.locals)
    (hws : ∀ w ∈ ws, ∀ a' U, s.WarmedH U.vm → w.before a' U = true) (hcode : Cond.codeWith y bytes maxL ret hh ∈ ws) (hinit : ∀ a' U, s.WarmedH U.vm → (Cond.initialized y.cls).before a' U = true) :
    vx_Back l R p e below s sargs y len W9 (PreOf R mc ms Pc) (PostOf Qc mc ms free) (vx_Post XC mc ms free) := by
  intro m meth c A g ig mk a X hg hsize hdg hW hn hp
  have h1 : (headSpec ws rm).pre.before a A.U = true := atoms_intro fun w hw => hws w hw _ _ X.warmed
  have h2 : (Cond.codeWith y bytes maxL ret hh).before a A.U = true := hws _ hcode _ _ X.warmed
  have h3 : (Cond.initialized y.cls).before a A.U = true := hinit _ _ X.warmed
  have h4 : A.cells + (headSpec ws rm).room.cells ≤ R.cells := by rw [show (headSpec ws rm).room.cells = mc from hrc]; exact hp.1
  have h5 : A.slots + (headSpec ws rm).room.slots ≤ R.slots := by rw [show (headSpec ws rm).room.slots = ms from hrs]; exact hp.2.1
  have hPc : Pc a (A.U.calling g mk a) := hblind _ _ _ _ hp.2.2
  obtain ⟨U, Ls, c0, s0⟩ := A
  dsimp only [Pt.U, Pt.locs, Pt.cells, Pt.slots] at h1 h2 h3 h4 h5 X hn hPc ⊢
  obtain ⟨m9, methY, cY, hn9, hmY, hcY, -, hlY, -⟩ := Cond.codeWith_spec h2
  cases Option.some.inj (hn9.symm.trans hn)
  obtain ⟨kY, hkY, -⟩ := className_of_methodNamed hn
  have hinitY : kY.init = .initialized := Cond.initialized_spec (findClass_of_methodNamed hn) hkY h3
  have h : At U g.method c below := by rw [hg]; exact X.here
  have hlocals9 : W9 + (maxL + 11) + (headSpec ws rm).room.locals ≤ R.locals := hlocals
  have happ : (headSpec ws rm).appliesLoose y e.platform (U.calling g mk a) = true :=
    Spec.appliesLoose_calling (g := g) h hdg hn hkY hinitY
      (X.room_calling (g := g) (R' := (headSpec ws rm).room) hsize hmY hcY hframes (by rw [hlY]; omega) h4 h5) h1
  obtain ⟨mid, hmid⟩ := h.above
  have hfr : (U.setTop g).frames = (.java g :: mid) ++ below := by rw [State.frames_setTop' g h.top, hmid]; rfl
  obtain ⟨o, s₂, hsteps, -, hend, hq⟩ := Steps.callFree hM p X.admits X.cas X.clock (acts := []) hfr happ hPc trivial
  have hq' : vx_Q Qc XC mc ms free a (U.calling g mk a) o s₂ := hq
  rw [State.frames_setTop' g h.top] at hend
  obtain ⟨g₀, hg0⟩ := Option.isSome_iff_exists.mp h.top
  obtain ⟨r, hr⟩ := State.topJava?_eq_some.mp hg0
  have hr' : (({ U with heap := s₂.heap, slotsUsed := s₂.slotsUsed } : State).setVm s₂.vm).frames = .java g₀ :: r := hr
  rcases hq' with ⟨hqc, L, hfe, hL⟩ | ⟨q, rfl, E, ce, L, hx, hce, hcv, hcl, hW₂, hsm, hL⟩
  · obtain ⟨⟨v, rfl⟩, hW₂, e2, q2, q3, q4, q5, q6⟩ := id hfe
    have e3 : s₂ = ({ (U.calling g mk a).setFrames s₂.frames with heap := s₂.heap, slotsUsed := s₂.slotsUsed } : State).setVm s₂.vm := by
      have : s₂ = ({ s₂ with vm := (U.calling g mk a).vm } : State).setVm s₂.vm := rfl
      rw [e2] at this
      exact this
    obtain ⟨c₂, i₂, len₂, hc₂, hd₂, hf₂⟩ := hend
    have hW' : U.WarmedH s₂.vm := hW₂
    have hcc : c₂ = c := by
      have h1 : s₂.code? g.method = U.code? g.method := by
        rw [State.code?_eq, State.code?_eq, hW'.alike.method?]
      exact Option.some.inj (hc₂.symm.trans (h1.trans h.code))
    subst hcc
    have hlen : len₂ = len := by rw [hdg] at hd₂; cases hd₂; rfl
    subst hlen
    have hs₂ : s₂ = (({ U with heap := s₂.heap, slotsUsed := s₂.slotsUsed } : State).setVm s₂.vm).setTop { g with pc := g.pc + len₂, stack := v.toList ++ g.stack } := by
      refine e3.trans ?_
      rw [hf₂, State.calling_eq h.top, State.setFrames_setFrames, State.setTop_of_frames _ hr', hr]
      rfl
    have hsame : U.sameButNew ({ U with heap := s₂.heap, slotsUsed := s₂.slotsUsed } : State) L mc ms := by
      refine ⟨?_, q2, q3, q4, q5, q6⟩
      obtain ⟨t, ht, -⟩ := State.frames_cons hr
      show ({ U with heap := s₂.heap, slotsUsed := s₂.slotsUsed } : State) = { U.setFrames U.frames with heap := s₂.heap, slotsUsed := s₂.slotsUsed }
      rw [State.setFrames_self ht]
    subst hg
    refine Or.inl ⟨v, ⟨(({ U with heap := s₂.heap, slotsUsed := s₂.slotsUsed } : State).setVm s₂.vm), Ls ++ L, c0 + mc, s0 + ms⟩,
      ⟨X.admits, X.cas, X.clock, X.frames, X.room, X.hears, X.method, X.code, (X.here.setHeapUsed s₂.heap s₂.slotsUsed).setVm hW'.alike, X.tail, State.WarmedH.trans X.warmed hW', X.limits, X.bytes, X.same.trans (hsame.setVm s.vm)⟩,
      ⟨g, mk, s₂, L, rfl, rfl, hqc, rfl, hL, rfl, rfl⟩, ?_⟩
    show Steps p.tables e below _ ((({ U with heap := s₂.heap, slotsUsed := s₂.slotsUsed } : State).setVm s₂.vm).setTop { g with pc := g.pc + len₂, stack := v.toList ++ g.stack })
    rw [← hs₂]
    exact hsteps
  · obtain ⟨e2, q2, q3, q4, q5, q6⟩ := id hsm
    have e3 : s₂ = ({ (U.calling g mk a).setFrames s₂.frames with heap := s₂.heap, slotsUsed := s₂.slotsUsed } : State).setVm s₂.vm := by
      have : s₂ = ({ s₂ with vm := (U.calling g mk a).vm } : State).setVm s₂.vm := rfl
      rw [e2] at this
      exact this
    have hf₂ : s₂.frames = .throwing q :: .java g :: U.frames.tail := hend
    have hW' : U.WarmedH s₂.vm := hW₂
    have hs₂ : s₂ = ((({ U with heap := s₂.heap, slotsUsed := s₂.slotsUsed } : State).setVm s₂.vm).setTop g).pushFrame (.throwing q) := by
      refine e3.trans ?_
      rw [hf₂, State.calling_eq h.top, State.setFrames_setFrames, State.pushFrame, State.frames_setTop _ hr', State.setTop_of_frames _ hr', State.setFrames_setFrames, hr]
      rfl
    have hsame : U.sameButNew ({ U with heap := s₂.heap, slotsUsed := s₂.slotsUsed } : State) L mc ms := by
      refine ⟨?_, q2, q3, q4, q5, q6⟩
      obtain ⟨t, ht, -⟩ := State.frames_cons hr
      show ({ U with heap := s₂.heap, slotsUsed := s₂.slotsUsed } : State) = { U.setFrames U.frames with heap := s₂.heap, slotsUsed := s₂.slotsUsed }
      rw [State.setFrames_self ht]
    subst hg
    refine Or.inr ⟨q, ⟨(({ U with heap := s₂.heap, slotsUsed := s₂.slotsUsed } : State).setVm s₂.vm), Ls ++ L, c0 + mc, s0 + ms⟩,
      ⟨X.admits, X.cas, X.clock, X.frames, X.room, X.hears, X.method, X.code, (X.here.setHeapUsed s₂.heap s₂.slotsUsed).setVm hW'.alike, X.tail, State.WarmedH.trans X.warmed hW', X.limits, X.bytes, X.same.trans (hsame.setVm s.vm)⟩,
      ⟨g, mk, s₂, L, E, ce, rfl, rfl, hx, hce, hcv, hcl, rfl, hL, rfl, rfl⟩, ?_⟩
    show Steps p.tables e below _ (((({ U with heap := s₂.heap, slotsUsed := s₂.slotsUsed } : State).setVm s₂.vm).setTop g).pushFrame (.throwing q))
    rw [← hs₂]
    exact hsteps
end
variable {p : Program} {l : Launch} {e : Env} {R : Room} {s : State} {m : MethodId} {args : Array Value} {below : List Frame} {meth : Method} {c : Code} {T : State} {H : Heap} {locs : List Loc} {cells slots : Nat}
theorem vx_callVX (X : Stand p l e R s m args below meth c T locs cells slots) (hexec : p.tables.exec = Jvm.exec) {own C : String} {index : Nat} {y : MethodName} {bytes : ByteArray} {maxL : Nat} {ret : Option FieldType} {hh : List (Nat × Nat × Nat × Nat)}
    (hown : s.vm.findClass own = some m.cls) (hlink : (Cond.methodLink own index y).before args s = true) (hinst : (Cond.instanceMethod y).before args s = true) (hsel : (Cond.selects C y y).before args s = true)
    (hcode : (Cond.codeWith y bytes maxL ret hh).before args s = true) (hy : y.cls ≠ "java/lang/invoke/MethodHandle" ∧ y.cls ≠ "java/lang/invoke/VarHandle")
    {W9 : Nat} {Pre : Pt → Array Value → Prop} {Post : Pt → Array Value → Option Value → Pt → Prop} {PostX : Pt → Array Value → Addr → Pt → Prop} (hK : vx_Back l R p e below s args y 3 W9 Pre Post PostX)
    {b : Addr} {cellB : Cell} (hcell : T.heap[b]? = some cellB) (hobj : cellB.vm.isStatics = false) (hcls : s.vm.findClass C = some cellB.cls)
    {g : JFrame} (hg : g.method = m) (hsize : g.locals.size = c.maxLocals) {argsL rest : List Value} (hlen : ∀ sig, parseMethodDescriptor y.desc = some sig → argsL.length = sig.parameters.length)
    (hstack : g.stack = argsL.reverse ++ .ref b :: rest) (hW : 2 * g.monitorRoom + (rest.map fun v => v.category).sum ≤ W9) (hdg : decode c.code g.pc = .ok (.invokevirtual index, 3))
    (hpre : ∀ vm₁, s.WarmedH vm₁ → Pre ⟨T.setVm vm₁, locs, cells, slots⟩ (Value.ref b :: argsL).toArray) :
    (∃ (v : Option Value) (vm₁ : Vm) (B : Pt), s.WarmedH vm₁ ∧ Stand p l e R s m args below meth c B.U B.locs B.cells B.slots ∧ Post ⟨T.setVm vm₁, locs, cells, slots⟩ (Value.ref b :: argsL).toArray v B ∧
      ∀ target, Steps p.tables e below (B.U.setTop { g with pc := g.pc + 3, stack := v.toList ++ rest }) target → Steps p.tables e below (T.setTop g) target) ∨
    (∃ (q : Addr) (vm₁ : Vm) (B : Pt), s.WarmedH vm₁ ∧ Stand p l e R s m args below meth c B.U B.locs B.cells B.slots ∧ PostX ⟨T.setVm vm₁, locs, cells, slots⟩ (Value.ref b :: argsL).toArray q B ∧
      Steps p.tables e below (T.setTop g) ((B.U.setTop { g with stack := rest }).pushFrame (.throwing q))) := by
  obtain ⟨mk, methM, hnamed, hmethM, hstM, habM⟩ := Cond.instanceMethod_spec hinst
  obtain ⟨m8, methM', cM, hn8, hmethM', -, -, -, -, -, -, hsigM⟩ := Cond.codeWith_spec hcode
  cases Option.some.inj (hn8.symm.trans hnamed)
  cases hmethM.symm.trans hmethM'
  obtain ⟨c2, r2, m2, q1, q2, q3, q4, kP, hkP, hkPi⟩ := Cond.selects_spec hsel
  cases hcls.symm.trans q1
  cases (State.methodFound?_of_named hnamed hy).symm.trans q2
  cases hnamed.symm.trans q3
  have hselP : selectMethod e.platform s.vm cellB.cls mk = .method mk := by rw [Launch.admits_selectMethod X.admits]; exact q4
  obtain ⟨vm₁, X₁, hstep₁⟩ := X.invokevirtual hexec hown hlink hnamed hmethM hstM hkP hkPi hy (a := b) (cell := cellB) hcell
    (fun z h => by rw [h] at hobj; cases hobj) hselP hmethM habM hkP hkPi (g := g) hg (argsL := argsL) (rest := rest) (hlen _ hsigM) hstack hdg
  rcases hK m meth c ⟨T.setVm vm₁, locs, cells, slots⟩ { g with stack := rest } (.invokevirtual index) mk (Value.ref b :: argsL).toArray X₁ hg hsize hdg hW (X₁.named hnamed) (hpre vm₁ X₁.warmed) with ⟨v, B, X', hpost, hsteps⟩ | ⟨q, B, X', hpost, hsteps⟩
  · exact Or.inl ⟨v, vm₁, B, X₁.warmed, X', hpost, fun target h => hstep₁ _ fun acts => by rw [doInvoke_state]; exact hsteps.trans h⟩
  · exact Or.inr ⟨q, vm₁, B, X₁.warmed, X', hpost, hstep₁ _ fun acts => by rw [doInvoke_state]; exact hsteps⟩
theorem vx_callSX (X : Stand p l e R s m args below meth c T locs cells slots) (hexec : p.tables.exec = Jvm.exec) {own : String} {index : Nat} {y : MethodName} {bytes : ByteArray} {maxL : Nat} {ret : Option FieldType} {hh : List (Nat × Nat × Nat × Nat)}
    (hown : s.vm.findClass own = some m.cls) (hlink : (Cond.methodLink own index y).before args s = true) (hstat : (Cond.static y).before args s = true) (hinit : (Cond.initialized y.cls).before args s = true)
    (hcode : (Cond.codeWith y bytes maxL ret hh).before args s = true) (hy : y.cls ≠ "java/lang/invoke/MethodHandle" ∧ y.cls ≠ "java/lang/invoke/VarHandle")
    {W9 : Nat} {Pre : Pt → Array Value → Prop} {Post : Pt → Array Value → Option Value → Pt → Prop} {PostX : Pt → Array Value → Addr → Pt → Prop} (hK : vx_Back l R p e below s args y 3 W9 Pre Post PostX)
    {g : JFrame} (hg : g.method = m) (hsize : g.locals.size = c.maxLocals) {argsL rest : List Value} (hlen : ∀ sig, parseMethodDescriptor y.desc = some sig → argsL.length = sig.parameters.length)
    (hstack : g.stack = argsL.reverse ++ rest) (hW : 2 * g.monitorRoom + (rest.map fun v => v.category).sum ≤ W9) (hdg : decode c.code g.pc = .ok (.invokestatic index, 3))
    (hpre : ∀ vm₁, s.WarmedH vm₁ → Pre ⟨T.setVm vm₁, locs, cells, slots⟩ argsL.toArray) :
    (∃ (v : Option Value) (vm₁ : Vm) (B : Pt), s.WarmedH vm₁ ∧ Stand p l e R s m args below meth c B.U B.locs B.cells B.slots ∧ Post ⟨T.setVm vm₁, locs, cells, slots⟩ argsL.toArray v B ∧
      ∀ target, Steps p.tables e below (B.U.setTop { g with pc := g.pc + 3, stack := v.toList ++ rest }) target → Steps p.tables e below (T.setTop g) target) ∨
    (∃ (q : Addr) (vm₁ : Vm) (B : Pt), s.WarmedH vm₁ ∧ Stand p l e R s m args below meth c B.U B.locs B.cells B.slots ∧ PostX ⟨T.setVm vm₁, locs, cells, slots⟩ argsL.toArray q B ∧
      Steps p.tables e below (T.setTop g) ((B.U.setTop { g with stack := rest }).pushFrame (.throwing q))) := by
  obtain ⟨mk, methM, cM, hnamed, hmethM, -, -, -, -, -, -, hsigM⟩ := Cond.codeWith_spec hcode
  have hstatic : methM.isStatic = true := Cond.static_spec hnamed hmethM hstat
  obtain ⟨kP, hkP, -⟩ := className_of_methodNamed hnamed
  have hinitP : kP.init = .initialized := Cond.initialized_spec (findClass_of_methodNamed hnamed) hkP hinit
  obtain ⟨vm₁, X₁, hstep₁⟩ := X.invokestatic hexec hown hlink hnamed hmethM hstatic hkP hinitP hy (g := g) hg (argsL := argsL) (rest := rest) (hlen _ hsigM) hstack hdg
  rcases hK m meth c ⟨T.setVm vm₁, locs, cells, slots⟩ { g with stack := rest } (.invokestatic index) mk argsL.toArray X₁ hg hsize hdg hW (X₁.named hnamed) (hpre vm₁ X₁.warmed) with ⟨v, B, X', hpost, hsteps⟩ | ⟨q, B, X', hpost, hsteps⟩
  · exact Or.inl ⟨v, vm₁, B, X₁.warmed, X', hpost, fun target h => hstep₁ _ fun acts => by rw [doInvoke_state]; exact hsteps.trans h⟩
  · exact Or.inr ⟨q, vm₁, B, X₁.warmed, X', hpost, hstep₁ _ fun acts => by rw [doInvoke_state]; exact hsteps⟩
theorem vx_callVW (X : Stand p l e R s m args below meth c T locs cells slots) (hexec : p.tables.exec = Jvm.exec) {own C : String} {index : Nat} {y : MethodName} {bytes : ByteArray} {maxL : Nat} {ret : Option FieldType} {hh : List (Nat × Nat × Nat × Nat)}
    (hown : s.vm.findClass own = some m.cls) (hlink : (Cond.methodLink own index y).before args s = true) (hinst : (Cond.instanceMethod y).before args s = true) (hsel : (Cond.selects C y y).before args s = true)
    (hcode : (Cond.codeWith y bytes maxL ret hh).before args s = true) (hy : y.cls ≠ "java/lang/invoke/MethodHandle" ∧ y.cls ≠ "java/lang/invoke/VarHandle")
    {W9 : Nat} {Pre : Pt → Array Value → Prop} {Post : Pt → Array Value → Option Value → Pt → Prop} (hK : Back l R p e below s args y 3 W9 Pre Post)
    {b : Addr} {cellB : Cell} (hcell : T.heap[b]? = some cellB) (hobj : cellB.vm.isStatics = false) (hcls : s.vm.findClass C = some cellB.cls)
    {g : JFrame} (hg : g.method = m) (hsize : g.locals.size = c.maxLocals) {argsL rest : List Value} (hlen : ∀ sig, parseMethodDescriptor y.desc = some sig → argsL.length = sig.parameters.length)
    (hstack : g.stack = argsL.reverse ++ .ref b :: rest) (hW : 2 * g.monitorRoom + (rest.map fun v => v.category).sum ≤ W9) (hdg : decode c.code g.pc = .ok (.invokevirtual index, 3))
    (hpre : ∀ vm₁, s.WarmedH vm₁ → Pre ⟨T.setVm vm₁, locs, cells, slots⟩ (Value.ref b :: argsL).toArray) :
    ∃ (v : Option Value) (vm₁ : Vm) (B : Pt), s.WarmedH vm₁ ∧ Stand p l e R s m args below meth c B.U B.locs B.cells B.slots ∧ Post ⟨T.setVm vm₁, locs, cells, slots⟩ (Value.ref b :: argsL).toArray v B ∧
      ∀ target, Steps p.tables e below (B.U.setTop { g with pc := g.pc + 3, stack := v.toList ++ rest }) target → Steps p.tables e below (T.setTop g) target := by
  obtain ⟨mk, methM, hnamed, hmethM, hstM, habM⟩ := Cond.instanceMethod_spec hinst
  obtain ⟨m8, methM', cM, hn8, hmethM', -, -, -, -, -, -, hsigM⟩ := Cond.codeWith_spec hcode
  cases Option.some.inj (hn8.symm.trans hnamed)
  cases hmethM.symm.trans hmethM'
  obtain ⟨c2, r2, m2, q1, q2, q3, q4, kP, hkP, hkPi⟩ := Cond.selects_spec hsel
  cases hcls.symm.trans q1
  cases (State.methodFound?_of_named hnamed hy).symm.trans q2
  cases hnamed.symm.trans q3
  have hselP : selectMethod e.platform s.vm cellB.cls mk = .method mk := by rw [Launch.admits_selectMethod X.admits]; exact q4
  obtain ⟨vm₁, X₁, hstep₁⟩ := X.invokevirtual hexec hown hlink hnamed hmethM hstM hkP hkPi hy (a := b) (cell := cellB) hcell
    (fun z h => by rw [h] at hobj; cases hobj) hselP hmethM habM hkP hkPi (g := g) hg (argsL := argsL) (rest := rest) (hlen _ hsigM) hstack hdg
  obtain ⟨v, B, X', hpost, hsteps⟩ := hK m meth c ⟨T.setVm vm₁, locs, cells, slots⟩ { g with stack := rest } (.invokevirtual index) mk (Value.ref b :: argsL).toArray X₁ hg hsize hdg hW (X₁.named hnamed) (hpre vm₁ X₁.warmed)
  exact ⟨v, vm₁, B, X₁.warmed, X', hpost, fun target h => hstep₁ _ fun acts => by rw [doInvoke_state]; exact hsteps.trans h⟩
abbrev vx_CVW (R : Room) (s : State) (args : Array Value) (own C : String) (index : Nat) (y : MethodName) (bytes : ByteArray) (maxL : Nat) (ret : Option FieldType) (hh : List (Nat × Nat × Nat × Nat)) (ws : List Cond) (rm : Room) (mc ms n : Nat) : Prop :=
  (rm.cells = mc ∧ rm.slots = ms ∧ rm.frames + 1 ≤ R.frames ∧ 8 + (maxL + 11) + rm.locals ≤ R.locals ∧ (∀ w ∈ ws, ∀ (a' : Array Value) (U : State), s.WarmedH U.vm → w.before a' U = true) ∧ Cond.codeWith y bytes maxL ret hh ∈ ws) ∧
  (Cond.codeWith y bytes maxL ret hh).before args s = true ∧ (Cond.initialized y.cls).before args s = true ∧ (y.cls ≠ "java/lang/invoke/MethodHandle" ∧ y.cls ≠ "java/lang/invoke/VarHandle") ∧
  (∀ sig, parseMethodDescriptor y.desc = some sig → n = sig.parameters.length) ∧ (Cond.methodLink own index y).before args s = true ∧ (Cond.instanceMethod y).before args s = true ∧ (Cond.selects C y y).before args s = true
theorem vx_cwVW {own C : String} {index maxL mc ms : Nat} {y : MethodName} {bytes : ByteArray} {ret : Option FieldType} {hh : List (Nat × Nat × Nat × Nat)} {Ts ws ws' : List Cond} {rm : Room} (n : Nat) (ht : ∀ w ∈ Ts, w.before args s = true) (hT : GoodIn Ts (wsV own index C y ws)) (hw : ws = Cond.codeWith y bytes maxL ret hh :: ws') (hrc : rm.cells = mc) (hrs : rm.slots = ms)
    (hd : y.cls = C ∧ y.cls ≠ "java/lang/invoke/MethodHandle" ∧ y.cls ≠ "java/lang/invoke/VarHandle" ∧ (parseMethodDescriptor y.desc).map (fun d => d.parameters.length) = some n) (hR : rm.frames + 1 ≤ R.frames ∧ 8 + (maxL + 11) + rm.locals ≤ R.locals) :
    vx_CVW R s args own C index y bytes maxL ret hh ws rm mc ms n := by
  obtain ⟨hC, hd⟩ := hd
  subst hC
  have ok : ∀ w ∈ wsV own index y.cls y ws, w.before args s = true := fun w h => ht w (hT w h).1
  have hG : GoodIn Ts ws := fun w h => hT w (by unfold wsV; exact List.mem_append_right _ h)
  have hc : Cond.codeWith y bytes maxL ret hh ∈ ws := by rw [hw]; exact List.mem_cons_self
  refine ⟨⟨hrc, hrs, hR.1, hR.2, pay_in ht hG, hc⟩, ht _ (hG _ hc).1, ok _ (by simp [wsV]), ⟨hd.1, hd.2.1⟩, fun sig h => ?_, ok _ (by simp [wsV]), ok _ (by simp [wsV]), ok _ (by simp [wsV])⟩
  have h2 := hd.2.2
  rw [h] at h2
  exact (Option.some.inj h2).symm
theorem vx_runVW {y : MethodName} {bytes cc : ByteArray} {maxL nL mc ms n index : Nat} {ret : Option FieldType} {hh : List (Nat × Nat × Nat × Nat)} {ws : List Cond} {rm : Room} {Pc : Array Value → State → Prop} {Qc : Array Value → State → Outcome → State → Prop} {free : Addr → Prop} {Ts : List Cond} {own C : String} {b : Addr} {As rest : List Value} {g : JFrame}
    (S : CallFix p m c cc nL s args Ts own) (hM : Met l y ws rm Pc Qc mc ms free) (cw : vx_CVW R s args own C index y bytes maxL ret hh ws rm mc ms n) (hp : PreV s H C b Pc As)
    (hg : g.method = m) (hn : As.length = n) (hsize : g.locals.size = nL) (hstack : g.stack = As.reverse ++ .ref b :: rest) (hW : 2 * g.monitorRoom + (rest.map fun v => v.category).sum ≤ 8) (hdg : decode cc g.pc = .ok (.invokevirtual index, 3)) (hf : cells + mc ≤ R.cells ∧ slots + ms ≤ R.slots) :
    va_Run p l e R s m args below meth c H locs cells slots mc ms g rest (Qc (Value.ref b :: As).toArray) free := by
  obtain ⟨⟨hrc, hrs, hfr, hlo, hws, hcw⟩, hcode, hini, hy, hlen, hl, hin, hse⟩ := cw
  have hK : Back l R p e below s args y 3 8 (PreOf R mc ms Pc) (PostOf Qc mc ms free) := va_backW (hh := hh) (bytes := bytes) (maxL := maxL) (ret := ret) hM hp.1 hrc hrs hfr hlo hws hcw (fun a' U hW => word_at hW (Or.inl (by first | rfl | simp [Cond.onTables, Cond.keeps, Cond.steady])) hini)
  obtain ⟨hx, hb, hml, ho, -⟩ := S
  obtain ⟨-, ⟨cellB, hcB, hoB, hclB⟩, hPc⟩ := hp
  intro T hT X
  obtain ⟨v, vm₁, ⟨U', l2, c2, s2⟩, hW₁, X', ⟨g', mk, t, L, e1, e2, hq, h1, hL, h2, h3⟩, st⟩ := vx_callVW X hx (C := C) (hh := hh) (bytes := bytes) (maxL := maxL) (ret := ret) ho hl hin hse hcode hy hK (by rw [hT]; exact hcB) hoB hclB hg (hsize.trans hml.symm) (argsL := As) (rest := rest) (fun sig h => hn.trans (hlen sig h)) hstack hW (by rw [hb]; exact hdg)
    (fun vm₁ hW₁ => ⟨hf.1, hf.2, hPc (T.setVm vm₁) hT hW₁⟩)
  dsimp only [Pt.U, Pt.locs, Pt.cells, Pt.slots] at X' e1 e2 h1 h2 h3 st
  subst h1; subst h2; subst h3
  exact ⟨v, (T.setVm vm₁).calling g' mk (Value.ref b :: As).toArray, t, U', L, hT, X', hL, e1, e2, hq, st⟩
section
variable {y : MethodName} {bytes cc : ByteArray} {maxL nL mc ms n index : Nat} {ret : Option FieldType} {ws : List Cond} {rm : Room} {Pc : Array Value → State → Prop} {Qc : Array Value → State → Outcome → State → Prop} {XC : String → State → State → Prop} {free : Addr → Prop} {Ts : List Cond} {own C : String} {b : Addr} {As rest : List Value} {g : JFrame}
theorem vx_runVX {hh : List (Nat × Nat × Nat × Nat)} (S : CallFix p m c cc nL s args Ts own) (hM : vx_Met l y ws rm Pc Qc XC mc ms free) (cw : vx_CVW R s args own C index y bytes maxL ret hh ws rm mc ms n) (hp : PreV s H C b Pc As)
    (hg : g.method = m) (hn : As.length = n) (hsize : g.locals.size = nL) (hstack : g.stack = As.reverse ++ .ref b :: rest) (hW : 2 * g.monitorRoom + (rest.map fun v => v.category).sum ≤ 8) (hdg : decode cc g.pc = .ok (.invokevirtual index, 3)) (hf : cells + mc ≤ R.cells ∧ slots + ms ≤ R.slots) :
    vx_Run p l e R s m args below meth c H locs cells slots mc ms g rest (Qc (Value.ref b :: As).toArray) XC free := by
  obtain ⟨⟨hrc, hrs, hfr, hlo, hws, hcw⟩, hcode, hini, hy, hlen, hl, hin, hse⟩ := cw
  have hK : vx_Back l R p e below s args y 3 8 (PreOf R mc ms Pc) (PostOf Qc mc ms free) (vx_Post XC mc ms free) := vx_backW (hh := hh) (bytes := bytes) (maxL := maxL) (ret := ret) hM hp.1 hrc hrs hfr hlo hws hcw (fun a' U hW => word_at hW (Or.inl (by first | rfl | simp [Cond.onTables, Cond.keeps, Cond.steady])) hini)
  obtain ⟨hx, hb, hml, ho, -⟩ := S
  obtain ⟨-, ⟨cellB, hcB, hoB, hclB⟩, hPc⟩ := hp
  intro T hT X
  rcases vx_callVX X hx (C := C) (hh := hh) (bytes := bytes) (maxL := maxL) (ret := ret) ho hl hin hse hcode hy hK (by rw [hT]; exact hcB) hoB hclB hg (hsize.trans hml.symm) (argsL := As) (rest := rest) (fun sig h => hn.trans (hlen sig h)) hstack hW (by rw [hb]; exact hdg)
    (fun vm₁ hW₁ => ⟨hf.1, hf.2, hPc (T.setVm vm₁) hT hW₁⟩) with ⟨v, vm₁, ⟨U', l2, c2, s2⟩, hW₁, X', ⟨g', mk, t, L, e1, e2, hq, h1, hL, h2, h3⟩, st⟩ | ⟨q, vm₁, ⟨U', l2, c2, s2⟩, hW₁, X', ⟨g', mk, t, L, E, ce, e1, e2, hq, hce, hcv, hcl, h1, hL, h2, h3⟩, st⟩
  · dsimp only [Pt.U, Pt.locs, Pt.cells, Pt.slots] at X' e1 e2 h1 h2 h3 st
    subst h1; subst h2; subst h3
    exact Or.inl ⟨v, (T.setVm vm₁).calling g' mk (Value.ref b :: As).toArray, t, U', L, hT, X', hL, e1, e2, hq, st⟩
  · dsimp only [Pt.U, Pt.locs, Pt.cells, Pt.slots] at X' e1 e2 h1 h2 h3 st hcl
    subst h1; subst h2; subst h3
    exact Or.inr ⟨q, (T.setVm vm₁).calling g' mk (Value.ref b :: As).toArray, t, U', L, E, ce, hT, X', hL, e1, e2, hq, hce, hcv, vx_cls hW₁ hcl, st⟩
theorem vx_runSX {hh : List (Nat × Nat × Nat × Nat)} (S : CallFix p m c cc nL s args Ts own) (hM : vx_Met l y ws rm Pc Qc XC mc ms free) (cw : vx_CSW R s args own index y bytes maxL ret hh ws rm mc ms n) (hp : PreS s H Pc As)
    (hg : g.method = m) (hn : As.length = n) (hsize : g.locals.size = nL) (hstack : g.stack = As.reverse ++ rest) (hW : 2 * g.monitorRoom + (rest.map fun v => v.category).sum ≤ 8) (hdg : decode cc g.pc = .ok (.invokestatic index, 3)) (hf : cells + mc ≤ R.cells ∧ slots + ms ≤ R.slots) :
    vx_Run p l e R s m args below meth c H locs cells slots mc ms g rest (Qc As.toArray) XC free := by
  obtain ⟨⟨hrc, hrs, hfr, hlo, hws, hcw⟩, hcode, hini, hy, hlen, hl, hstt⟩ := cw
  have hK : vx_Back l R p e below s args y 3 8 (PreOf R mc ms Pc) (PostOf Qc mc ms free) (vx_Post XC mc ms free) := vx_backW (hh := hh) (bytes := bytes) (maxL := maxL) (ret := ret) hM hp.1 hrc hrs hfr hlo hws hcw (fun a' U hW => word_at hW (Or.inl (by first | rfl | simp [Cond.onTables, Cond.keeps, Cond.steady])) hini)
  obtain ⟨hx, hb, hml, ho, -⟩ := S
  intro T hT X
  rcases vx_callSX X hx (hh := hh) (bytes := bytes) (maxL := maxL) (ret := ret) ho hl hstt hini hcode hy hK hg (hsize.trans hml.symm) (argsL := As) (rest := rest) (fun sig h => hn.trans (hlen sig h)) hstack hW (by rw [hb]; exact hdg)
    (fun vm₁ hW₁ => ⟨hf.1, hf.2, hp.2 (T.setVm vm₁) hT hW₁⟩) with ⟨v, vm₁, ⟨U', l2, c2, s2⟩, hW₁, X', ⟨g', mk, t, L, e1, e2, hq, h1, hL, h2, h3⟩, st⟩ | ⟨q, vm₁, ⟨U', l2, c2, s2⟩, hW₁, X', ⟨g', mk, t, L, E, ce, e1, e2, hq, hce, hcv, hcl, h1, hL, h2, h3⟩, st⟩
  · dsimp only [Pt.U, Pt.locs, Pt.cells, Pt.slots] at X' e1 e2 h1 h2 h3 st
    subst h1; subst h2; subst h3
    exact Or.inl ⟨v, (T.setVm vm₁).calling g' mk As.toArray, t, U', L, hT, X', hL, e1, e2, hq, st⟩
  · dsimp only [Pt.U, Pt.locs, Pt.cells, Pt.slots] at X' e1 e2 h1 h2 h3 st hcl
    subst h1; subst h2; subst h3
    exact Or.inr ⟨q, (T.setVm vm₁).calling g' mk As.toArray, t, U', L, E, ce, hT, X', hL, e1, e2, hq, hce, hcv, vx_cls hW₁ hcl, st⟩
end
end VXH
theorem vx_ofWH {l : Launch} {y : MethodName} {ws ws' : List Cond} {rm : Room} {Pc : Array Value → State → Prop} {Qc : Array Value → State → Outcome → State → Prop} {XC : String → State → State → Prop} {mc ms : Nat} {free : Addr → Prop} {cc : ByteArray} {maxL : Nat} {ret : Option FieldType} {hh : List (Nat × Nat × Nat × Nat)}
    (hy : plainName y.cls = true) (hw : ws = Cond.codeWith y cc maxL ret hh :: ws')
    (body : ∀ p e s m args below meth c s₁, BodyLoose p l y (headSpec ws rm) cc maxL ret e s m args below meth c s₁ → c.maxLocals = maxL → Pc args s →
      W p l e (headSpec ws rm).room s m args below meth c s.heap [] 0 0 (vx_MQ below Qc XC args s mc ms free) (entryFrame m args maxL)) : vx_Met l y ws rm Pc Qc XC mc ms free := by
  refine MetFree.of_bodyS (code := cc) (maxLocals := maxL) (ret := ret) hy ?_ ?_
  · intro args s m h hn
    obtain ⟨m9, meth, c, hn9, h1, h2, h3, h4, -, h5, h6, -⟩ := Cond.codeWith_spec (atoms_spec (ws := ws) h _ (by rw [hw]; exact List.mem_cons_self))
    cases hn.symm.trans hn9
    exact ⟨meth, c, h1, h2, h3, h4, h5, h6⟩
  · intro p e s m args below meth c s₁ B hml hP _
    have hh0 : s₁.heap = s.heap := by rw [B.state]; rfl
    obtain ⟨t, a1, o, b1, b2, b3⟩ := body p e s m args below meth c s₁ B hml hP s₁ hh0 (Stand.of_body B)
    exact ⟨t, o, a1, b1, b2, b3⟩
/-! ===== END ===== -/
end
section
/-! ===== BEGIN printed: names, fields, word lists, decode rows ===== -/
def RX0 : String := "StackComputer"
def TX0 : u_T := fun k => match k with
  | 0 => ("StackComputer", "words", "[I", true)
  | 1 => ("StackComputer", "bytes", "[B", true)
  | 2 => ("StackComputer", "pc", "I", false)
  | 3 => ("StackComputer", "sp", "I", false)
  | 4 => ("StackComputer", "lv", "I", false)
  | 5 => ("StackComputer", "cpp", "I", false)
  | 6 => ("StackComputer", "top", "I", false)
  | 7 => ("StackComputer", "state", "I", false)
  | 8 => ("StackComputer", "cycles", "I", false)
  | _ => ("StackComputer", "instructions", "I", false)
def tyX0 : Nat → FieldType := fun k => match k with
  | 0 => .array .int
  | 1 => .array .byte
  | 2 => .int
  | 3 => .int
  | 4 => .int
  | 5 => .int
  | 6 => .int
  | 7 => .int
  | 8 => .int
  | _ => .int
abbrev wsX00 : List Cond := u_ws RX0 TX0 10
theorem nmX0 : ∀ a, a < 10 → ∀ b, b < 10 → a ≠ b → (TX0 a).2.1 ≠ (TX0 b).2.1 := by decide +kernel
theorem tyX0_ok : ∀ k, k < 10 → parseFieldDescriptor (TX0 k).2.2.1 = some (tyX0 k) := by decide +kernel
abbrev cX0_init : ByteArray := prog_1_method_1_code
def yX0_init : MethodName := ⟨RX0, "<init>", "()V"⟩
abbrev cX0_word : ByteArray := prog_1_method_2_code
def yX0_word : MethodName := ⟨RX0, "word", "(II)V"⟩
abbrev cX0_code : ByteArray := prog_1_method_3_code
def yX0_code : MethodName := ⟨RX0, "code", "(II)V"⟩
abbrev cX0_boot : ByteArray := prog_1_method_4_code
def yX0_boot : MethodName := ⟨RX0, "boot", "(IIII)V"⟩
abbrev cX0_run : ByteArray := prog_1_method_5_code
def yX0_run : MethodName := ⟨RX0, "run", "(I)I"⟩
abbrev cX0_register : ByteArray := prog_1_method_6_code
def yX0_register : MethodName := ⟨RX0, "register", "(I)I"⟩
abbrev cX0_look : ByteArray := prog_1_method_7_code
def yX0_look : MethodName := ⟨RX0, "look", "(I)I"⟩
abbrev cX0_sum : ByteArray := prog_1_method_8_code
def yX0_sum : MethodName := ⟨RX0, "sum", "()I"⟩
abbrev cX0_step : ByteArray := prog_1_method_9_code
def yX0_step : MethodName := ⟨RX0, "step", "()V"⟩
abbrev cX0_combine : ByteArray := prog_1_method_10_code
def yX0_combine : MethodName := ⟨RX0, "combine", "(I)V"⟩
abbrev cX0_combined : ByteArray := prog_1_method_11_code
def yX0_combined : MethodName := ⟨RX0, "combined", "(III)I"⟩
abbrev cX0_push : ByteArray := prog_1_method_12_code
def yX0_push : MethodName := ⟨RX0, "push", "(III)V"⟩
abbrev cX0_pop : ByteArray := prog_1_method_13_code
def yX0_pop : MethodName := ⟨RX0, "pop", "()V"⟩
abbrev cX0_swap : ByteArray := prog_1_method_14_code
def yX0_swap : MethodName := ⟨RX0, "swap", "()V"⟩
abbrev cX0_pushByte : ByteArray := prog_1_method_15_code
def yX0_pushByte : MethodName := ⟨RX0, "pushByte", "()V"⟩
abbrev cX0_loadNarrow : ByteArray := prog_1_method_16_code
def yX0_loadNarrow : MethodName := ⟨RX0, "loadNarrow", "()V"⟩
abbrev cX0_storeNarrow : ByteArray := prog_1_method_17_code
def yX0_storeNarrow : MethodName := ⟨RX0, "storeNarrow", "()V"⟩
abbrev cX0_wide : ByteArray := prog_1_method_18_code
def yX0_wide : MethodName := ⟨RX0, "wide", "()V"⟩
abbrev cX0_loadConstant : ByteArray := prog_1_method_19_code
def yX0_loadConstant : MethodName := ⟨RX0, "loadConstant", "()V"⟩
abbrev cX0_load : ByteArray := prog_1_method_20_code
def yX0_load : MethodName := ⟨RX0, "load", "(III)V"⟩
abbrev cX0_store : ByteArray := prog_1_method_21_code
def yX0_store : MethodName := ⟨RX0, "store", "(III)V"⟩
abbrev cX0_increase : ByteArray := prog_1_method_22_code
def yX0_increase : MethodName := ⟨RX0, "increase", "()V"⟩
abbrev cX0_jump : ByteArray := prog_1_method_23_code
def yX0_jump : MethodName := ⟨RX0, "jump", "(I)V"⟩
abbrev cX0_jumpOnTop : ByteArray := prog_1_method_24_code
def yX0_jumpOnTop : MethodName := ⟨RX0, "jumpOnTop", "(Z)V"⟩
abbrev cX0_jumpOnLike : ByteArray := prog_1_method_25_code
def yX0_jumpOnLike : MethodName := ⟨RX0, "jumpOnLike", "()V"⟩
abbrev cX0_branch : ByteArray := prog_1_method_26_code
def yX0_branch : MethodName := ⟨RX0, "branch", "(ZII)V"⟩
abbrev cX0_enter : ByteArray := prog_1_method_27_code
def yX0_enter : MethodName := ⟨RX0, "enter", "()V"⟩
abbrev cX0_leave : ByteArray := prog_1_method_28_code
def yX0_leave : MethodName := ⟨RX0, "leave", "()V"⟩
abbrev cX0_halt : ByteArray := prog_1_method_29_code
def yX0_halt : MethodName := ⟨RX0, "halt", "()V"⟩
abbrev cX0_trap : ByteArray := prog_1_method_30_code
def yX0_trap : MethodName := ⟨RX0, "trap", "()V"⟩
abbrev cX0_fault : ByteArray := prog_1_method_31_code
def yX0_fault : MethodName := ⟨RX0, "fault", "()V"⟩
abbrev cX0_finish : ByteArray := prog_1_method_32_code
def yX0_finish : MethodName := ⟨RX0, "finish", "(II)V"⟩
abbrev cX0_isWord : ByteArray := prog_1_method_33_code
def yX0_isWord : MethodName := ⟨RX0, "isWord", "(I)Z"⟩
abbrev cX0_areBytes : ByteArray := prog_1_method_34_code
def yX0_areBytes : MethodName := ⟨RX0, "areBytes", "(II)Z"⟩
abbrev cX0_unsignedByte : ByteArray := prog_1_method_35_code
def yX0_unsignedByte : MethodName := ⟨RX0, "unsignedByte", "(I)I"⟩
abbrev cX0_unsignedPair : ByteArray := prog_1_method_36_code
def yX0_unsignedPair : MethodName := ⟨RX0, "unsignedPair", "(I)I"⟩
abbrev cX0_signedPair : ByteArray := prog_1_method_37_code
def yX0_signedPair : MethodName := ⟨RX0, "signedPair", "(I)I"⟩
def RX1 : String := "StackComputerModel"
def TX1 : u_T := fun k => match k with
  | 0 => ("StackComputerModel", "thrown", "I", false)
  | 1 => ("StackComputerModel", "words", "[I", true)
  | 2 => ("StackComputerModel", "bytes", "[I", true)
  | 3 => ("StackComputerModel", "pc", "I", false)
  | 4 => ("StackComputerModel", "sp", "I", false)
  | 5 => ("StackComputerModel", "lv", "I", false)
  | 6 => ("StackComputerModel", "cpp", "I", false)
  | 7 => ("StackComputerModel", "top", "I", false)
  | 8 => ("StackComputerModel", "state", "I", false)
  | 9 => ("StackComputerModel", "cycles", "I", false)
  | 10 => ("StackComputerModel", "done", "I", false)
  | 11 => ("StackComputerModel", "next", "I", false)
  | 12 => ("StackComputerModel", "amiss", "Z", false)
  | 13 => ("StackComputerModel", "unknown", "Z", false)
  | 14 => ("StackComputerModel", "writes", "I", false)
  | 15 => ("StackComputerModel", "places", "[I", true)
  | _ => ("StackComputerModel", "before", "[I", true)
def tyX1 : Nat → FieldType := fun k => match k with
  | 0 => .int
  | 1 => .array .int
  | 2 => .array .int
  | 3 => .int
  | 4 => .int
  | 5 => .int
  | 6 => .int
  | 7 => .int
  | 8 => .int
  | 9 => .int
  | 10 => .int
  | 11 => .int
  | 12 => .boolean
  | 13 => .boolean
  | 14 => .int
  | 15 => .array .int
  | _ => .array .int
abbrev wsX10 : List Cond := u_ws RX1 TX1 17
theorem nmX1 : ∀ a, a < 17 → ∀ b, b < 17 → a ≠ b → (TX1 a).2.1 ≠ (TX1 b).2.1 := by decide +kernel
theorem tyX1_ok : ∀ k, k < 17 → parseFieldDescriptor (TX1 k).2.2.1 = some (tyX1 k) := by decide +kernel
abbrev cX1_init : ByteArray := prog_3_method_1_code
def yX1_init : MethodName := ⟨RX1, "<init>", "()V"⟩
abbrev cX1_thrown : ByteArray := prog_3_method_2_code
def yX1_thrown : MethodName := ⟨RX1, "thrown", "()I"⟩
abbrev cX1_isWord : ByteArray := prog_3_method_3_code
def yX1_isWord : MethodName := ⟨RX1, "isWord", "(I)Z"⟩
abbrev cX1_word : ByteArray := prog_3_method_4_code
def yX1_word : MethodName := ⟨RX1, "word", "(II)V"⟩
abbrev cX1_code : ByteArray := prog_3_method_5_code
def yX1_code : MethodName := ⟨RX1, "code", "(II)V"⟩
abbrev cX1_boot : ByteArray := prog_3_method_6_code
def yX1_boot : MethodName := ⟨RX1, "boot", "(IIII)V"⟩
abbrev cX1_read : ByteArray := prog_3_method_7_code
def yX1_read : MethodName := ⟨RX1, "read", "(I)I"⟩
abbrev cX1_write : ByteArray := prog_3_method_8_code
def yX1_write : MethodName := ⟨RX1, "write", "(II)V"⟩
abbrev cX1_byteAt : ByteArray := prog_3_method_9_code
def yX1_byteAt : MethodName := ⟨RX1, "byteAt", "(I)I"⟩
abbrev cX1_pair : ByteArray := prog_3_method_10_code
def yX1_pair : MethodName := ⟨RX1, "pair", "(I)I"⟩
abbrev cX1_signed : ByteArray := prog_3_method_11_code
def yX1_signed : MethodName := ⟨RX1, "signed", "(II)I"⟩
abbrev cX1_reckon : ByteArray := prog_3_method_12_code
def yX1_reckon : MethodName := ⟨RX1, "reckon", "(I)I"⟩
abbrev cX1_push : ByteArray := prog_3_method_13_code
def yX1_push : MethodName := ⟨RX1, "push", "(III)I"⟩
abbrev cX1_store : ByteArray := prog_3_method_14_code
def yX1_store : MethodName := ⟨RX1, "store", "(III)I"⟩
abbrev cX1_swap : ByteArray := prog_3_method_15_code
def yX1_swap : MethodName := ⟨RX1, "swap", "()I"⟩
abbrev cX1_wide : ByteArray := prog_3_method_16_code
def yX1_wide : MethodName := ⟨RX1, "wide", "()I"⟩
abbrev cX1_increase : ByteArray := prog_3_method_17_code
def yX1_increase : MethodName := ⟨RX1, "increase", "()I"⟩
abbrev cX1_jump : ByteArray := prog_3_method_18_code
def yX1_jump : MethodName := ⟨RX1, "jump", "(ZII)I"⟩
abbrev cX1_ifs : ByteArray := prog_3_method_19_code
def yX1_ifs : MethodName := ⟨RX1, "ifs", "(I)I"⟩
abbrev cX1_call : ByteArray := prog_3_method_20_code
def yX1_call : MethodName := ⟨RX1, "call", "()I"⟩
abbrev cX1_giveBack : ByteArray := prog_3_method_21_code
def yX1_giveBack : MethodName := ⟨RX1, "giveBack", "()I"⟩
abbrev cX1_perform : ByteArray := prog_3_method_22_code
def yX1_perform : MethodName := ⟨RX1, "perform", "(I)I"⟩
abbrev cX1_step : ByteArray := prog_3_method_23_code
def yX1_step : MethodName := ⟨RX1, "step", "()V"⟩
abbrev cX1_run : ByteArray := prog_3_method_24_code
def yX1_run : MethodName := ⟨RX1, "run", "(I)I"⟩
abbrev cX1_register : ByteArray := prog_3_method_25_code
def yX1_register : MethodName := ⟨RX1, "register", "(I)I"⟩
abbrev cX1_look : ByteArray := prog_3_method_26_code
def yX1_look : MethodName := ⟨RX1, "look", "(I)I"⟩
abbrev cX1_sum : ByteArray := prog_3_method_27_code
def yX1_sum : MethodName := ⟨RX1, "sum", "()I"⟩
def RJ0 : String := "java/lang/String"
def TJ0 : u_T := fun k => match k with
  | _ => ("", "", "", false)
def tyJ0 : Nat → FieldType := fun k => match k with
  | _ => .int
abbrev wsJ00 : List Cond := u_ws RJ0 TJ0 0
theorem nmJ0 : ∀ a, a < 0 → ∀ b, b < 0 → a ≠ b → (TJ0 a).2.1 ≠ (TJ0 b).2.1 := by decide +kernel
theorem tyJ0_ok : ∀ k, k < 0 → parseFieldDescriptor (TJ0 k).2.2.1 = some (tyJ0 k) := by decide +kernel
def RL : String := "StackComputerLaw"
abbrev cL_word : ByteArray := method_3_code
def yL_word : MethodName := ⟨RL, "word", "(LStackComputer;II)I"⟩
abbrev cL_code : ByteArray := method_4_code
def yL_code : MethodName := ⟨RL, "code", "(LStackComputer;II)I"⟩
abbrev cL_run : ByteArray := method_5_code
def yL_run : MethodName := ⟨RL, "run", "(LStackComputer;I[J)I"⟩
abbrev cL_register : ByteArray := method_6_code
def yL_register : MethodName := ⟨RL, "register", "(LStackComputer;I[J)I"⟩
abbrev cL_look : ByteArray := method_7_code
def yL_look : MethodName := ⟨RL, "look", "(LStackComputer;I[J)I"⟩
abbrev cL_law : ByteArray := code
def yL_law : MethodName := ⟨RL, "law", "([I)Z"⟩
def wsX0_init : List Cond := .code yX0_init cX0_init 1 none :: ([.methodLink RX0 1 objectInit, .instanceMethod objectInit, .code objectInit ⟨#[0xb1]⟩ 1 none, .arrayClass .int, .fieldLink RX0 9 "StackComputer" "words" "[I", .arrayClass .byte, .fieldLink RX0 13 "StackComputer" "bytes" "[B", .fieldLink RX0 17 "StackComputer" "pc" "I", .fieldLink RX0 21 "StackComputer" "sp" "I", .fieldLink RX0 24 "StackComputer" "lv" "I", .fieldLink RX0 27 "StackComputer" "cpp" "I", .fieldLink RX0 30 "StackComputer" "top" "I", .fieldLink RX0 33 "StackComputer" "state" "I", .fieldLink RX0 36 "StackComputer" "cycles" "I", .fieldLink RX0 39 "StackComputer" "instructions" "I"] ++ wsX00)
def wsX0_isWord : List Cond := .code yX0_isWord cX0_isWord 1 (some .boolean) :: ([])
def wsX0_word : List Cond := .code yX0_word cX0_word 3 none :: ([.classLink RX0 46 "java/lang/IndexOutOfBoundsException", .initialized "java/lang/IndexOutOfBoundsException", .fieldLink RX0 9 "StackComputer" "words" "[I", .methodLink RX0 42 yX0_isWord, .static yX0_isWord, .initialized RX0, .code yX0_isWord cX0_isWord 1 (some .boolean)] ++ wsX00 ++ (vx_atS RX0 50 "java/lang/IndexOutOfBoundsException" ["java/lang/RuntimeException", "java/lang/Exception"]).filter goodWord)
def wsX0_areBytes : List Cond := .code yX0_areBytes cX0_areBytes 2 (some .boolean) :: ([])
def wsX0_code : List Cond := .code yX0_code cX0_code 3 none :: ([.classLink RX0 46 "java/lang/IndexOutOfBoundsException", .initialized "java/lang/IndexOutOfBoundsException", .fieldLink RX0 13 "StackComputer" "bytes" "[B", .methodLink RX0 53 yX0_areBytes, .static yX0_areBytes, .initialized RX0, .code yX0_areBytes cX0_areBytes 2 (some .boolean)] ++ wsX00 ++ (vx_atS RX0 50 "java/lang/IndexOutOfBoundsException" ["java/lang/RuntimeException", "java/lang/Exception"]).filter goodWord)
def wsX0_boot : List Cond := .code yX0_boot cX0_boot 5 none :: ([.fieldLink RX0 17 "StackComputer" "pc" "I", .fieldLink RX0 21 "StackComputer" "sp" "I", .fieldLink RX0 24 "StackComputer" "lv" "I", .fieldLink RX0 27 "StackComputer" "cpp" "I", .fieldLink RX0 9 "StackComputer" "words" "[I", .fieldLink RX0 30 "StackComputer" "top" "I", .fieldLink RX0 33 "StackComputer" "state" "I", .fieldLink RX0 36 "StackComputer" "cycles" "I", .fieldLink RX0 39 "StackComputer" "instructions" "I", .methodLink RX0 42 yX0_isWord, .static yX0_isWord, .initialized RX0, .code yX0_isWord cX0_isWord 1 (some .boolean)] ++ wsX00)
def wsX0_fault : List Cond := .code yX0_fault cX0_fault 1 none :: ([.fieldLink RX0 33 "StackComputer" "state" "I"] ++ wsX00)
def wsX0_unsignedByte : List Cond := .code yX0_unsignedByte cX0_unsignedByte 2 (some .int) :: ([.fieldLink RX0 13 "StackComputer" "bytes" "[B"] ++ wsX00)
def wsX0_finish : List Cond := .code yX0_finish cX0_finish 3 none :: ([.fieldLink RX0 17 "StackComputer" "pc" "I", .fieldLink RX0 36 "StackComputer" "cycles" "I", .fieldLink RX0 39 "StackComputer" "instructions" "I"] ++ wsX00)
def wsX0_combined : List Cond := .code yX0_combined cX0_combined 3 (some .int) :: ([])
def wsX0_combine : List Cond := .code yX0_combine cX0_combine 3 none :: ([.fieldLink RX0 21 "StackComputer" "sp" "I", .fieldLink RX0 9 "StackComputer" "words" "[I", .fieldLink RX0 30 "StackComputer" "top" "I", .fieldLink RX0 17 "StackComputer" "pc" "I", .methodLink RX0 42 yX0_isWord, .static yX0_isWord, .initialized RX0, .code yX0_isWord cX0_isWord 1 (some .boolean), .methodLink RX0 74 yX0_fault, .instanceMethod yX0_fault, .selects RX0 yX0_fault yX0_fault, .code yX0_fault cX0_fault 1 none, .fieldLink RX0 33 "StackComputer" "state" "I", .methodLink RX0 139 yX0_combined, .static yX0_combined, .code yX0_combined cX0_combined 3 (some .int), .methodLink RX0 81 yX0_finish, .instanceMethod yX0_finish, .selects RX0 yX0_finish yX0_finish, .code yX0_finish cX0_finish 3 none, .fieldLink RX0 36 "StackComputer" "cycles" "I", .fieldLink RX0 39 "StackComputer" "instructions" "I"] ++ wsX00)
def wsX0_push : List Cond := .code yX0_push cX0_push 5 none :: ([.fieldLink RX0 21 "StackComputer" "sp" "I", .fieldLink RX0 30 "StackComputer" "top" "I", .fieldLink RX0 9 "StackComputer" "words" "[I", .fieldLink RX0 17 "StackComputer" "pc" "I", .methodLink RX0 42 yX0_isWord, .static yX0_isWord, .initialized RX0, .code yX0_isWord cX0_isWord 1 (some .boolean), .methodLink RX0 74 yX0_fault, .instanceMethod yX0_fault, .selects RX0 yX0_fault yX0_fault, .code yX0_fault cX0_fault 1 none, .fieldLink RX0 33 "StackComputer" "state" "I", .methodLink RX0 81 yX0_finish, .instanceMethod yX0_finish, .selects RX0 yX0_finish yX0_finish, .code yX0_finish cX0_finish 3 none, .fieldLink RX0 36 "StackComputer" "cycles" "I", .fieldLink RX0 39 "StackComputer" "instructions" "I"] ++ wsX00)
def wsX0_pop : List Cond := .code yX0_pop cX0_pop 2 none :: ([.fieldLink RX0 21 "StackComputer" "sp" "I", .fieldLink RX0 9 "StackComputer" "words" "[I", .fieldLink RX0 30 "StackComputer" "top" "I", .fieldLink RX0 17 "StackComputer" "pc" "I", .methodLink RX0 42 yX0_isWord, .static yX0_isWord, .initialized RX0, .code yX0_isWord cX0_isWord 1 (some .boolean), .methodLink RX0 74 yX0_fault, .instanceMethod yX0_fault, .selects RX0 yX0_fault yX0_fault, .code yX0_fault cX0_fault 1 none, .fieldLink RX0 33 "StackComputer" "state" "I", .methodLink RX0 81 yX0_finish, .instanceMethod yX0_finish, .selects RX0 yX0_finish yX0_finish, .code yX0_finish cX0_finish 3 none, .fieldLink RX0 36 "StackComputer" "cycles" "I", .fieldLink RX0 39 "StackComputer" "instructions" "I"] ++ wsX00)
def wsX0_swap : List Cond := .code yX0_swap cX0_swap 3 none :: ([.fieldLink RX0 21 "StackComputer" "sp" "I", .fieldLink RX0 9 "StackComputer" "words" "[I", .fieldLink RX0 30 "StackComputer" "top" "I", .fieldLink RX0 17 "StackComputer" "pc" "I", .methodLink RX0 42 yX0_isWord, .static yX0_isWord, .initialized RX0, .code yX0_isWord cX0_isWord 1 (some .boolean), .methodLink RX0 74 yX0_fault, .instanceMethod yX0_fault, .selects RX0 yX0_fault yX0_fault, .code yX0_fault cX0_fault 1 none, .fieldLink RX0 33 "StackComputer" "state" "I", .methodLink RX0 81 yX0_finish, .instanceMethod yX0_finish, .selects RX0 yX0_finish yX0_finish, .code yX0_finish cX0_finish 3 none, .fieldLink RX0 36 "StackComputer" "cycles" "I", .fieldLink RX0 39 "StackComputer" "instructions" "I"] ++ wsX00)
def wsX0_pushByte_r1 : List Cond := [Cond.fieldLink RX0 17 "StackComputer" "pc" "I", Cond.fieldLink RX0 13 "StackComputer" "bytes" "[B", Cond.methodLink RX0 53 yX0_areBytes, Cond.static yX0_areBytes, Cond.initialized RX0, Cond.code yX0_areBytes cX0_areBytes 2 (some .boolean), Cond.methodLink RX0 74 yX0_fault, Cond.instanceMethod yX0_fault, Cond.selects RX0 yX0_fault yX0_fault, Cond.code yX0_fault cX0_fault 1 none, Cond.fieldLink RX0 33 "StackComputer" "state" "I", Cond.methodLink RX0 89 yX0_push, Cond.instanceMethod yX0_push, Cond.selects RX0 yX0_push yX0_push, Cond.code yX0_push cX0_push 5 none, Cond.fieldLink RX0 21 "StackComputer" "sp" "I", Cond.fieldLink RX0 30 "StackComputer" "top" "I", Cond.fieldLink RX0 9 "StackComputer" "words" "[I", Cond.methodLink RX0 42 yX0_isWord, Cond.static yX0_isWord, Cond.code yX0_isWord cX0_isWord 1 (some .boolean), Cond.methodLink RX0 81 yX0_finish, Cond.instanceMethod yX0_finish, Cond.selects RX0 yX0_finish yX0_finish]
def wsX0_pushByte_r2 : List Cond := [Cond.code yX0_finish cX0_finish 3 none, Cond.fieldLink RX0 36 "StackComputer" "cycles" "I", Cond.fieldLink RX0 39 "StackComputer" "instructions" "I"]
def wsX0_pushByte : List Cond := .code yX0_pushByte cX0_pushByte 1 none :: ((wsX0_pushByte_r1 ++ wsX0_pushByte_r2) ++ wsX00)
def wsX0_load : List Cond := .code yX0_load cX0_load 4 none :: ([.fieldLink RX0 9 "StackComputer" "words" "[I", .methodLink RX0 42 yX0_isWord, .static yX0_isWord, .initialized RX0, .code yX0_isWord cX0_isWord 1 (some .boolean), .methodLink RX0 74 yX0_fault, .instanceMethod yX0_fault, .selects RX0 yX0_fault yX0_fault, .code yX0_fault cX0_fault 1 none, .fieldLink RX0 33 "StackComputer" "state" "I", .methodLink RX0 89 yX0_push, .instanceMethod yX0_push, .selects RX0 yX0_push yX0_push, .code yX0_push cX0_push 5 none, .fieldLink RX0 21 "StackComputer" "sp" "I", .fieldLink RX0 30 "StackComputer" "top" "I", .fieldLink RX0 17 "StackComputer" "pc" "I", .methodLink RX0 81 yX0_finish, .instanceMethod yX0_finish, .selects RX0 yX0_finish yX0_finish, .code yX0_finish cX0_finish 3 none, .fieldLink RX0 36 "StackComputer" "cycles" "I", .fieldLink RX0 39 "StackComputer" "instructions" "I"] ++ wsX00)
def wsX0_loadNarrow_r1 : List Cond := [Cond.fieldLink RX0 17 "StackComputer" "pc" "I", Cond.fieldLink RX0 24 "StackComputer" "lv" "I", Cond.methodLink RX0 53 yX0_areBytes, Cond.static yX0_areBytes, Cond.initialized RX0, Cond.code yX0_areBytes cX0_areBytes 2 (some .boolean), Cond.methodLink RX0 74 yX0_fault, Cond.instanceMethod yX0_fault, Cond.selects RX0 yX0_fault yX0_fault, Cond.code yX0_fault cX0_fault 1 none, Cond.fieldLink RX0 33 "StackComputer" "state" "I", Cond.methodLink RX0 77 yX0_unsignedByte, Cond.instanceMethod yX0_unsignedByte, Cond.selects RX0 yX0_unsignedByte yX0_unsignedByte, Cond.code yX0_unsignedByte cX0_unsignedByte 2 (some .int), Cond.fieldLink RX0 13 "StackComputer" "bytes" "[B", Cond.methodLink RX0 143 yX0_load, Cond.instanceMethod yX0_load, Cond.selects RX0 yX0_load yX0_load, Cond.code yX0_load cX0_load 4 none, Cond.fieldLink RX0 9 "StackComputer" "words" "[I", Cond.methodLink RX0 42 yX0_isWord, Cond.static yX0_isWord, Cond.code yX0_isWord cX0_isWord 1 (some .boolean)]
def wsX0_loadNarrow_r2 : List Cond := [Cond.methodLink RX0 89 yX0_push, Cond.instanceMethod yX0_push, Cond.selects RX0 yX0_push yX0_push, Cond.code yX0_push cX0_push 5 none, Cond.fieldLink RX0 21 "StackComputer" "sp" "I", Cond.fieldLink RX0 30 "StackComputer" "top" "I", Cond.methodLink RX0 81 yX0_finish, Cond.instanceMethod yX0_finish, Cond.selects RX0 yX0_finish yX0_finish, Cond.code yX0_finish cX0_finish 3 none, Cond.fieldLink RX0 36 "StackComputer" "cycles" "I", Cond.fieldLink RX0 39 "StackComputer" "instructions" "I"]
def wsX0_loadNarrow : List Cond := .code yX0_loadNarrow cX0_loadNarrow 1 none :: ((wsX0_loadNarrow_r1 ++ wsX0_loadNarrow_r2) ++ wsX00)
def wsX0_store : List Cond := .code yX0_store cX0_store 5 none :: ([.fieldLink RX0 21 "StackComputer" "sp" "I", .fieldLink RX0 9 "StackComputer" "words" "[I", .fieldLink RX0 30 "StackComputer" "top" "I", .fieldLink RX0 17 "StackComputer" "pc" "I", .methodLink RX0 42 yX0_isWord, .static yX0_isWord, .initialized RX0, .code yX0_isWord cX0_isWord 1 (some .boolean), .methodLink RX0 74 yX0_fault, .instanceMethod yX0_fault, .selects RX0 yX0_fault yX0_fault, .code yX0_fault cX0_fault 1 none, .fieldLink RX0 33 "StackComputer" "state" "I", .methodLink RX0 81 yX0_finish, .instanceMethod yX0_finish, .selects RX0 yX0_finish yX0_finish, .code yX0_finish cX0_finish 3 none, .fieldLink RX0 36 "StackComputer" "cycles" "I", .fieldLink RX0 39 "StackComputer" "instructions" "I"] ++ wsX00)
def wsX0_storeNarrow_r1 : List Cond := [Cond.fieldLink RX0 17 "StackComputer" "pc" "I", Cond.fieldLink RX0 24 "StackComputer" "lv" "I", Cond.methodLink RX0 53 yX0_areBytes, Cond.static yX0_areBytes, Cond.initialized RX0, Cond.code yX0_areBytes cX0_areBytes 2 (some .boolean), Cond.methodLink RX0 74 yX0_fault, Cond.instanceMethod yX0_fault, Cond.selects RX0 yX0_fault yX0_fault, Cond.code yX0_fault cX0_fault 1 none, Cond.fieldLink RX0 33 "StackComputer" "state" "I", Cond.methodLink RX0 77 yX0_unsignedByte, Cond.instanceMethod yX0_unsignedByte, Cond.selects RX0 yX0_unsignedByte yX0_unsignedByte, Cond.code yX0_unsignedByte cX0_unsignedByte 2 (some .int), Cond.fieldLink RX0 13 "StackComputer" "bytes" "[B", Cond.methodLink RX0 146 yX0_store, Cond.instanceMethod yX0_store, Cond.selects RX0 yX0_store yX0_store, Cond.code yX0_store cX0_store 5 none, Cond.fieldLink RX0 21 "StackComputer" "sp" "I", Cond.fieldLink RX0 9 "StackComputer" "words" "[I", Cond.fieldLink RX0 30 "StackComputer" "top" "I", Cond.methodLink RX0 42 yX0_isWord]
def wsX0_storeNarrow_r2 : List Cond := [Cond.static yX0_isWord, Cond.code yX0_isWord cX0_isWord 1 (some .boolean), Cond.methodLink RX0 81 yX0_finish, Cond.instanceMethod yX0_finish, Cond.selects RX0 yX0_finish yX0_finish, Cond.code yX0_finish cX0_finish 3 none, Cond.fieldLink RX0 36 "StackComputer" "cycles" "I", Cond.fieldLink RX0 39 "StackComputer" "instructions" "I"]
def wsX0_storeNarrow : List Cond := .code yX0_storeNarrow cX0_storeNarrow 1 none :: ((wsX0_storeNarrow_r1 ++ wsX0_storeNarrow_r2) ++ wsX00)
def wsX0_trap : List Cond := .code yX0_trap cX0_trap 1 none :: ([.fieldLink RX0 33 "StackComputer" "state" "I"] ++ wsX00)
def wsX0_unsignedPair : List Cond := .code yX0_unsignedPair cX0_unsignedPair 2 (some .int) :: ([.methodLink RX0 77 yX0_unsignedByte, .instanceMethod yX0_unsignedByte, .selects RX0 yX0_unsignedByte yX0_unsignedByte, .initialized RX0, .code yX0_unsignedByte cX0_unsignedByte 2 (some .int), .fieldLink RX0 13 "StackComputer" "bytes" "[B"] ++ wsX00)
def wsX0_wide_r1 : List Cond := [Cond.fieldLink RX0 17 "StackComputer" "pc" "I", Cond.fieldLink RX0 24 "StackComputer" "lv" "I", Cond.methodLink RX0 53 yX0_areBytes, Cond.static yX0_areBytes, Cond.initialized RX0, Cond.code yX0_areBytes cX0_areBytes 2 (some .boolean), Cond.methodLink RX0 74 yX0_fault, Cond.instanceMethod yX0_fault, Cond.selects RX0 yX0_fault yX0_fault, Cond.code yX0_fault cX0_fault 1 none, Cond.fieldLink RX0 33 "StackComputer" "state" "I", Cond.methodLink RX0 77 yX0_unsignedByte, Cond.instanceMethod yX0_unsignedByte, Cond.selects RX0 yX0_unsignedByte yX0_unsignedByte, Cond.code yX0_unsignedByte cX0_unsignedByte 2 (some .int), Cond.fieldLink RX0 13 "StackComputer" "bytes" "[B", Cond.methodLink RX0 136 yX0_trap, Cond.instanceMethod yX0_trap, Cond.selects RX0 yX0_trap yX0_trap, Cond.code yX0_trap cX0_trap 1 none, Cond.methodLink RX0 149 yX0_unsignedPair, Cond.instanceMethod yX0_unsignedPair, Cond.selects RX0 yX0_unsignedPair yX0_unsignedPair, Cond.code yX0_unsignedPair cX0_unsignedPair 2 (some .int)]
def wsX0_wide_r2 : List Cond := [Cond.methodLink RX0 143 yX0_load, Cond.instanceMethod yX0_load, Cond.selects RX0 yX0_load yX0_load, Cond.code yX0_load cX0_load 4 none, Cond.fieldLink RX0 9 "StackComputer" "words" "[I", Cond.methodLink RX0 42 yX0_isWord, Cond.static yX0_isWord, Cond.code yX0_isWord cX0_isWord 1 (some .boolean), Cond.methodLink RX0 89 yX0_push, Cond.instanceMethod yX0_push, Cond.selects RX0 yX0_push yX0_push, Cond.code yX0_push cX0_push 5 none, Cond.fieldLink RX0 21 "StackComputer" "sp" "I", Cond.fieldLink RX0 30 "StackComputer" "top" "I", Cond.methodLink RX0 81 yX0_finish, Cond.instanceMethod yX0_finish, Cond.selects RX0 yX0_finish yX0_finish, Cond.code yX0_finish cX0_finish 3 none, Cond.fieldLink RX0 36 "StackComputer" "cycles" "I", Cond.fieldLink RX0 39 "StackComputer" "instructions" "I", Cond.methodLink RX0 146 yX0_store, Cond.instanceMethod yX0_store, Cond.selects RX0 yX0_store yX0_store, Cond.code yX0_store cX0_store 5 none]
def wsX0_wide : List Cond := .code yX0_wide cX0_wide 3 none :: ((wsX0_wide_r1 ++ wsX0_wide_r2) ++ wsX00)
def wsX0_loadConstant_r1 : List Cond := [Cond.fieldLink RX0 17 "StackComputer" "pc" "I", Cond.fieldLink RX0 27 "StackComputer" "cpp" "I", Cond.methodLink RX0 53 yX0_areBytes, Cond.static yX0_areBytes, Cond.initialized RX0, Cond.code yX0_areBytes cX0_areBytes 2 (some .boolean), Cond.methodLink RX0 74 yX0_fault, Cond.instanceMethod yX0_fault, Cond.selects RX0 yX0_fault yX0_fault, Cond.code yX0_fault cX0_fault 1 none, Cond.fieldLink RX0 33 "StackComputer" "state" "I", Cond.methodLink RX0 149 yX0_unsignedPair, Cond.instanceMethod yX0_unsignedPair, Cond.selects RX0 yX0_unsignedPair yX0_unsignedPair, Cond.code yX0_unsignedPair cX0_unsignedPair 2 (some .int), Cond.methodLink RX0 77 yX0_unsignedByte, Cond.instanceMethod yX0_unsignedByte, Cond.selects RX0 yX0_unsignedByte yX0_unsignedByte, Cond.code yX0_unsignedByte cX0_unsignedByte 2 (some .int), Cond.fieldLink RX0 13 "StackComputer" "bytes" "[B", Cond.methodLink RX0 143 yX0_load, Cond.instanceMethod yX0_load, Cond.selects RX0 yX0_load yX0_load, Cond.code yX0_load cX0_load 4 none]
def wsX0_loadConstant_r2 : List Cond := [Cond.fieldLink RX0 9 "StackComputer" "words" "[I", Cond.methodLink RX0 42 yX0_isWord, Cond.static yX0_isWord, Cond.code yX0_isWord cX0_isWord 1 (some .boolean), Cond.methodLink RX0 89 yX0_push, Cond.instanceMethod yX0_push, Cond.selects RX0 yX0_push yX0_push, Cond.code yX0_push cX0_push 5 none, Cond.fieldLink RX0 21 "StackComputer" "sp" "I", Cond.fieldLink RX0 30 "StackComputer" "top" "I", Cond.methodLink RX0 81 yX0_finish, Cond.instanceMethod yX0_finish, Cond.selects RX0 yX0_finish yX0_finish, Cond.code yX0_finish cX0_finish 3 none, Cond.fieldLink RX0 36 "StackComputer" "cycles" "I", Cond.fieldLink RX0 39 "StackComputer" "instructions" "I"]
def wsX0_loadConstant : List Cond := .code yX0_loadConstant cX0_loadConstant 1 none :: ((wsX0_loadConstant_r1 ++ wsX0_loadConstant_r2) ++ wsX00)
def wsX0_increase_r1 : List Cond := [Cond.fieldLink RX0 17 "StackComputer" "pc" "I", Cond.fieldLink RX0 24 "StackComputer" "lv" "I", Cond.fieldLink RX0 9 "StackComputer" "words" "[I", Cond.fieldLink RX0 13 "StackComputer" "bytes" "[B", Cond.methodLink RX0 53 yX0_areBytes, Cond.static yX0_areBytes, Cond.initialized RX0, Cond.code yX0_areBytes cX0_areBytes 2 (some .boolean), Cond.methodLink RX0 74 yX0_fault, Cond.instanceMethod yX0_fault, Cond.selects RX0 yX0_fault yX0_fault, Cond.code yX0_fault cX0_fault 1 none, Cond.fieldLink RX0 33 "StackComputer" "state" "I", Cond.methodLink RX0 77 yX0_unsignedByte, Cond.instanceMethod yX0_unsignedByte, Cond.selects RX0 yX0_unsignedByte yX0_unsignedByte, Cond.code yX0_unsignedByte cX0_unsignedByte 2 (some .int), Cond.methodLink RX0 42 yX0_isWord, Cond.static yX0_isWord, Cond.code yX0_isWord cX0_isWord 1 (some .boolean), Cond.methodLink RX0 81 yX0_finish, Cond.instanceMethod yX0_finish, Cond.selects RX0 yX0_finish yX0_finish, Cond.code yX0_finish cX0_finish 3 none]
def wsX0_increase_r2 : List Cond := [Cond.fieldLink RX0 36 "StackComputer" "cycles" "I", Cond.fieldLink RX0 39 "StackComputer" "instructions" "I"]
def wsX0_increase : List Cond := .code yX0_increase cX0_increase 2 none :: ((wsX0_increase_r1 ++ wsX0_increase_r2) ++ wsX00)
def wsX0_signedPair : List Cond := .code yX0_signedPair cX0_signedPair 2 (some .int) :: ([.fieldLink RX0 13 "StackComputer" "bytes" "[B", .methodLink RX0 77 yX0_unsignedByte, .instanceMethod yX0_unsignedByte, .selects RX0 yX0_unsignedByte yX0_unsignedByte, .initialized RX0, .code yX0_unsignedByte cX0_unsignedByte 2 (some .int)] ++ wsX00)
def wsX0_jump_r1 : List Cond := [Cond.fieldLink RX0 17 "StackComputer" "pc" "I", Cond.methodLink RX0 53 yX0_areBytes, Cond.static yX0_areBytes, Cond.initialized RX0, Cond.code yX0_areBytes cX0_areBytes 2 (some .boolean), Cond.methodLink RX0 74 yX0_fault, Cond.instanceMethod yX0_fault, Cond.selects RX0 yX0_fault yX0_fault, Cond.code yX0_fault cX0_fault 1 none, Cond.fieldLink RX0 33 "StackComputer" "state" "I", Cond.methodLink RX0 152 yX0_signedPair, Cond.instanceMethod yX0_signedPair, Cond.selects RX0 yX0_signedPair yX0_signedPair, Cond.code yX0_signedPair cX0_signedPair 2 (some .int), Cond.fieldLink RX0 13 "StackComputer" "bytes" "[B", Cond.methodLink RX0 77 yX0_unsignedByte, Cond.instanceMethod yX0_unsignedByte, Cond.selects RX0 yX0_unsignedByte yX0_unsignedByte, Cond.code yX0_unsignedByte cX0_unsignedByte 2 (some .int), Cond.methodLink RX0 81 yX0_finish, Cond.instanceMethod yX0_finish, Cond.selects RX0 yX0_finish yX0_finish, Cond.code yX0_finish cX0_finish 3 none, Cond.fieldLink RX0 36 "StackComputer" "cycles" "I"]
def wsX0_jump_r2 : List Cond := [Cond.fieldLink RX0 39 "StackComputer" "instructions" "I"]
def wsX0_jump : List Cond := .code yX0_jump cX0_jump 2 none :: ((wsX0_jump_r1 ++ wsX0_jump_r2) ++ wsX00)
def wsX0_branch_r1 : List Cond := [Cond.fieldLink RX0 17 "StackComputer" "pc" "I", Cond.fieldLink RX0 21 "StackComputer" "sp" "I", Cond.fieldLink RX0 9 "StackComputer" "words" "[I", Cond.fieldLink RX0 30 "StackComputer" "top" "I", Cond.methodLink RX0 53 yX0_areBytes, Cond.static yX0_areBytes, Cond.initialized RX0, Cond.code yX0_areBytes cX0_areBytes 2 (some .boolean), Cond.methodLink RX0 74 yX0_fault, Cond.instanceMethod yX0_fault, Cond.selects RX0 yX0_fault yX0_fault, Cond.code yX0_fault cX0_fault 1 none, Cond.fieldLink RX0 33 "StackComputer" "state" "I", Cond.methodLink RX0 117 yX0_jump, Cond.instanceMethod yX0_jump, Cond.selects RX0 yX0_jump yX0_jump, Cond.code yX0_jump cX0_jump 2 none, Cond.methodLink RX0 152 yX0_signedPair, Cond.instanceMethod yX0_signedPair, Cond.selects RX0 yX0_signedPair yX0_signedPair, Cond.code yX0_signedPair cX0_signedPair 2 (some .int), Cond.fieldLink RX0 13 "StackComputer" "bytes" "[B", Cond.methodLink RX0 77 yX0_unsignedByte, Cond.instanceMethod yX0_unsignedByte]
def wsX0_branch_r2 : List Cond := [Cond.selects RX0 yX0_unsignedByte yX0_unsignedByte, Cond.code yX0_unsignedByte cX0_unsignedByte 2 (some .int), Cond.methodLink RX0 81 yX0_finish, Cond.instanceMethod yX0_finish, Cond.selects RX0 yX0_finish yX0_finish, Cond.code yX0_finish cX0_finish 3 none, Cond.fieldLink RX0 36 "StackComputer" "cycles" "I", Cond.fieldLink RX0 39 "StackComputer" "instructions" "I"]
def wsX0_branch : List Cond := .code yX0_branch cX0_branch 4 none :: ((wsX0_branch_r1 ++ wsX0_branch_r2) ++ wsX00)
def wsX0_jumpOnTop_r1 : List Cond := [Cond.fieldLink RX0 21 "StackComputer" "sp" "I", Cond.methodLink RX0 42 yX0_isWord, Cond.static yX0_isWord, Cond.initialized RX0, Cond.code yX0_isWord cX0_isWord 1 (some .boolean), Cond.methodLink RX0 74 yX0_fault, Cond.instanceMethod yX0_fault, Cond.selects RX0 yX0_fault yX0_fault, Cond.code yX0_fault cX0_fault 1 none, Cond.fieldLink RX0 33 "StackComputer" "state" "I", Cond.methodLink RX0 155 yX0_branch, Cond.instanceMethod yX0_branch, Cond.selects RX0 yX0_branch yX0_branch, Cond.code yX0_branch cX0_branch 4 none, Cond.fieldLink RX0 17 "StackComputer" "pc" "I", Cond.fieldLink RX0 9 "StackComputer" "words" "[I", Cond.fieldLink RX0 30 "StackComputer" "top" "I", Cond.methodLink RX0 53 yX0_areBytes, Cond.static yX0_areBytes, Cond.code yX0_areBytes cX0_areBytes 2 (some .boolean), Cond.methodLink RX0 117 yX0_jump, Cond.instanceMethod yX0_jump, Cond.selects RX0 yX0_jump yX0_jump, Cond.code yX0_jump cX0_jump 2 none]
def wsX0_jumpOnTop_r2 : List Cond := [Cond.methodLink RX0 152 yX0_signedPair, Cond.instanceMethod yX0_signedPair, Cond.selects RX0 yX0_signedPair yX0_signedPair, Cond.code yX0_signedPair cX0_signedPair 2 (some .int), Cond.fieldLink RX0 13 "StackComputer" "bytes" "[B", Cond.methodLink RX0 77 yX0_unsignedByte, Cond.instanceMethod yX0_unsignedByte, Cond.selects RX0 yX0_unsignedByte yX0_unsignedByte, Cond.code yX0_unsignedByte cX0_unsignedByte 2 (some .int), Cond.methodLink RX0 81 yX0_finish, Cond.instanceMethod yX0_finish, Cond.selects RX0 yX0_finish yX0_finish, Cond.code yX0_finish cX0_finish 3 none, Cond.fieldLink RX0 36 "StackComputer" "cycles" "I", Cond.fieldLink RX0 39 "StackComputer" "instructions" "I"]
def wsX0_jumpOnTop : List Cond := .code yX0_jumpOnTop cX0_jumpOnTop 3 none :: ((wsX0_jumpOnTop_r1 ++ wsX0_jumpOnTop_r2) ++ wsX00)
def wsX0_jumpOnLike_r1 : List Cond := [Cond.fieldLink RX0 21 "StackComputer" "sp" "I", Cond.fieldLink RX0 30 "StackComputer" "top" "I", Cond.fieldLink RX0 9 "StackComputer" "words" "[I", Cond.methodLink RX0 42 yX0_isWord, Cond.static yX0_isWord, Cond.initialized RX0, Cond.code yX0_isWord cX0_isWord 1 (some .boolean), Cond.methodLink RX0 74 yX0_fault, Cond.instanceMethod yX0_fault, Cond.selects RX0 yX0_fault yX0_fault, Cond.code yX0_fault cX0_fault 1 none, Cond.fieldLink RX0 33 "StackComputer" "state" "I", Cond.methodLink RX0 155 yX0_branch, Cond.instanceMethod yX0_branch, Cond.selects RX0 yX0_branch yX0_branch, Cond.code yX0_branch cX0_branch 4 none, Cond.fieldLink RX0 17 "StackComputer" "pc" "I", Cond.methodLink RX0 53 yX0_areBytes, Cond.static yX0_areBytes, Cond.code yX0_areBytes cX0_areBytes 2 (some .boolean), Cond.methodLink RX0 117 yX0_jump, Cond.instanceMethod yX0_jump, Cond.selects RX0 yX0_jump yX0_jump, Cond.code yX0_jump cX0_jump 2 none]
def wsX0_jumpOnLike_r2 : List Cond := [Cond.methodLink RX0 152 yX0_signedPair, Cond.instanceMethod yX0_signedPair, Cond.selects RX0 yX0_signedPair yX0_signedPair, Cond.code yX0_signedPair cX0_signedPair 2 (some .int), Cond.fieldLink RX0 13 "StackComputer" "bytes" "[B", Cond.methodLink RX0 77 yX0_unsignedByte, Cond.instanceMethod yX0_unsignedByte, Cond.selects RX0 yX0_unsignedByte yX0_unsignedByte, Cond.code yX0_unsignedByte cX0_unsignedByte 2 (some .int), Cond.methodLink RX0 81 yX0_finish, Cond.instanceMethod yX0_finish, Cond.selects RX0 yX0_finish yX0_finish, Cond.code yX0_finish cX0_finish 3 none, Cond.fieldLink RX0 36 "StackComputer" "cycles" "I", Cond.fieldLink RX0 39 "StackComputer" "instructions" "I"]
def wsX0_jumpOnLike : List Cond := .code yX0_jumpOnLike cX0_jumpOnLike 3 none :: ((wsX0_jumpOnLike_r1 ++ wsX0_jumpOnLike_r2) ++ wsX00)
def wsX0_enter_r1 : List Cond := [Cond.fieldLink RX0 17 "StackComputer" "pc" "I", Cond.fieldLink RX0 27 "StackComputer" "cpp" "I", Cond.fieldLink RX0 9 "StackComputer" "words" "[I", Cond.fieldLink RX0 21 "StackComputer" "sp" "I", Cond.fieldLink RX0 24 "StackComputer" "lv" "I", Cond.fieldLink RX0 30 "StackComputer" "top" "I", Cond.methodLink RX0 53 yX0_areBytes, Cond.static yX0_areBytes, Cond.initialized RX0, Cond.code yX0_areBytes cX0_areBytes 2 (some .boolean), Cond.methodLink RX0 74 yX0_fault, Cond.instanceMethod yX0_fault, Cond.selects RX0 yX0_fault yX0_fault, Cond.code yX0_fault cX0_fault 1 none, Cond.fieldLink RX0 33 "StackComputer" "state" "I", Cond.methodLink RX0 149 yX0_unsignedPair, Cond.instanceMethod yX0_unsignedPair, Cond.selects RX0 yX0_unsignedPair yX0_unsignedPair, Cond.code yX0_unsignedPair cX0_unsignedPair 2 (some .int), Cond.methodLink RX0 77 yX0_unsignedByte, Cond.instanceMethod yX0_unsignedByte, Cond.selects RX0 yX0_unsignedByte yX0_unsignedByte, Cond.code yX0_unsignedByte cX0_unsignedByte 2 (some .int), Cond.fieldLink RX0 13 "StackComputer" "bytes" "[B"]
def wsX0_enter_r2 : List Cond := [Cond.methodLink RX0 42 yX0_isWord, Cond.static yX0_isWord, Cond.code yX0_isWord cX0_isWord 1 (some .boolean), Cond.methodLink RX0 81 yX0_finish, Cond.instanceMethod yX0_finish, Cond.selects RX0 yX0_finish yX0_finish, Cond.code yX0_finish cX0_finish 3 none, Cond.fieldLink RX0 36 "StackComputer" "cycles" "I", Cond.fieldLink RX0 39 "StackComputer" "instructions" "I"]
def wsX0_enter : List Cond := .code yX0_enter cX0_enter 5 none :: ((wsX0_enter_r1 ++ wsX0_enter_r2) ++ wsX00)
def wsX0_leave : List Cond := .code yX0_leave cX0_leave 4 none :: ([.fieldLink RX0 24 "StackComputer" "lv" "I", .fieldLink RX0 9 "StackComputer" "words" "[I", .fieldLink RX0 30 "StackComputer" "top" "I", .fieldLink RX0 21 "StackComputer" "sp" "I", .methodLink RX0 42 yX0_isWord, .static yX0_isWord, .initialized RX0, .code yX0_isWord cX0_isWord 1 (some .boolean), .methodLink RX0 74 yX0_fault, .instanceMethod yX0_fault, .selects RX0 yX0_fault yX0_fault, .code yX0_fault cX0_fault 1 none, .fieldLink RX0 33 "StackComputer" "state" "I", .methodLink RX0 81 yX0_finish, .instanceMethod yX0_finish, .selects RX0 yX0_finish yX0_finish, .code yX0_finish cX0_finish 3 none, .fieldLink RX0 17 "StackComputer" "pc" "I", .fieldLink RX0 36 "StackComputer" "cycles" "I", .fieldLink RX0 39 "StackComputer" "instructions" "I"] ++ wsX00)
def wsX0_halt : List Cond := .code yX0_halt cX0_halt 1 none :: ([.fieldLink RX0 33 "StackComputer" "state" "I", .fieldLink RX0 17 "StackComputer" "pc" "I", .methodLink RX0 81 yX0_finish, .instanceMethod yX0_finish, .selects RX0 yX0_finish yX0_finish, .initialized RX0, .code yX0_finish cX0_finish 3 none, .fieldLink RX0 36 "StackComputer" "cycles" "I", .fieldLink RX0 39 "StackComputer" "instructions" "I"] ++ wsX00)
def wsX0_step_r1 : List Cond := [Cond.fieldLink RX0 17 "StackComputer" "pc" "I", Cond.fieldLink RX0 30 "StackComputer" "top" "I", Cond.methodLink RX0 53 yX0_areBytes, Cond.static yX0_areBytes, Cond.initialized RX0, Cond.code yX0_areBytes cX0_areBytes 2 (some .boolean), Cond.methodLink RX0 74 yX0_fault, Cond.instanceMethod yX0_fault, Cond.selects RX0 yX0_fault yX0_fault, Cond.code yX0_fault cX0_fault 1 none, Cond.fieldLink RX0 33 "StackComputer" "state" "I", Cond.methodLink RX0 77 yX0_unsignedByte, Cond.instanceMethod yX0_unsignedByte, Cond.selects RX0 yX0_unsignedByte yX0_unsignedByte, Cond.code yX0_unsignedByte cX0_unsignedByte 2 (some .int), Cond.fieldLink RX0 13 "StackComputer" "bytes" "[B", Cond.methodLink RX0 81 yX0_finish, Cond.instanceMethod yX0_finish, Cond.selects RX0 yX0_finish yX0_finish, Cond.code yX0_finish cX0_finish 3 none, Cond.fieldLink RX0 36 "StackComputer" "cycles" "I", Cond.fieldLink RX0 39 "StackComputer" "instructions" "I", Cond.methodLink RX0 85 yX0_combine, Cond.instanceMethod yX0_combine]
def wsX0_step_r2 : List Cond := [Cond.selects RX0 yX0_combine yX0_combine, Cond.code yX0_combine cX0_combine 3 none, Cond.fieldLink RX0 21 "StackComputer" "sp" "I", Cond.fieldLink RX0 9 "StackComputer" "words" "[I", Cond.methodLink RX0 42 yX0_isWord, Cond.static yX0_isWord, Cond.code yX0_isWord cX0_isWord 1 (some .boolean), Cond.methodLink RX0 139 yX0_combined, Cond.static yX0_combined, Cond.code yX0_combined cX0_combined 3 (some .int), Cond.methodLink RX0 89 yX0_push, Cond.instanceMethod yX0_push, Cond.selects RX0 yX0_push yX0_push, Cond.code yX0_push cX0_push 5 none, Cond.methodLink RX0 93 yX0_pop, Cond.instanceMethod yX0_pop, Cond.selects RX0 yX0_pop yX0_pop, Cond.code yX0_pop cX0_pop 2 none, Cond.methodLink RX0 96 yX0_swap, Cond.instanceMethod yX0_swap, Cond.selects RX0 yX0_swap yX0_swap, Cond.code yX0_swap cX0_swap 3 none, Cond.methodLink RX0 99 yX0_pushByte, Cond.instanceMethod yX0_pushByte]
def wsX0_step_r3 : List Cond := [Cond.selects RX0 yX0_pushByte yX0_pushByte, Cond.code yX0_pushByte cX0_pushByte 1 none, Cond.methodLink RX0 102 yX0_loadNarrow, Cond.instanceMethod yX0_loadNarrow, Cond.selects RX0 yX0_loadNarrow yX0_loadNarrow, Cond.code yX0_loadNarrow cX0_loadNarrow 1 none, Cond.fieldLink RX0 24 "StackComputer" "lv" "I", Cond.methodLink RX0 143 yX0_load, Cond.instanceMethod yX0_load, Cond.selects RX0 yX0_load yX0_load, Cond.code yX0_load cX0_load 4 none, Cond.methodLink RX0 105 yX0_storeNarrow, Cond.instanceMethod yX0_storeNarrow, Cond.selects RX0 yX0_storeNarrow yX0_storeNarrow, Cond.code yX0_storeNarrow cX0_storeNarrow 1 none, Cond.methodLink RX0 146 yX0_store, Cond.instanceMethod yX0_store, Cond.selects RX0 yX0_store yX0_store, Cond.code yX0_store cX0_store 5 none, Cond.methodLink RX0 108 yX0_wide, Cond.instanceMethod yX0_wide, Cond.selects RX0 yX0_wide yX0_wide, Cond.code yX0_wide cX0_wide 3 none, Cond.methodLink RX0 136 yX0_trap]
def wsX0_step_r4 : List Cond := [Cond.instanceMethod yX0_trap, Cond.selects RX0 yX0_trap yX0_trap, Cond.code yX0_trap cX0_trap 1 none, Cond.methodLink RX0 149 yX0_unsignedPair, Cond.instanceMethod yX0_unsignedPair, Cond.selects RX0 yX0_unsignedPair yX0_unsignedPair, Cond.code yX0_unsignedPair cX0_unsignedPair 2 (some .int), Cond.methodLink RX0 111 yX0_loadConstant, Cond.instanceMethod yX0_loadConstant, Cond.selects RX0 yX0_loadConstant yX0_loadConstant, Cond.code yX0_loadConstant cX0_loadConstant 1 none, Cond.fieldLink RX0 27 "StackComputer" "cpp" "I", Cond.methodLink RX0 114 yX0_increase, Cond.instanceMethod yX0_increase, Cond.selects RX0 yX0_increase yX0_increase, Cond.code yX0_increase cX0_increase 2 none, Cond.methodLink RX0 117 yX0_jump, Cond.instanceMethod yX0_jump, Cond.selects RX0 yX0_jump yX0_jump, Cond.code yX0_jump cX0_jump 2 none, Cond.methodLink RX0 152 yX0_signedPair, Cond.instanceMethod yX0_signedPair, Cond.selects RX0 yX0_signedPair yX0_signedPair, Cond.code yX0_signedPair cX0_signedPair 2 (some .int)]
def wsX0_step_r5 : List Cond := [Cond.methodLink RX0 120 yX0_jumpOnTop, Cond.instanceMethod yX0_jumpOnTop, Cond.selects RX0 yX0_jumpOnTop yX0_jumpOnTop, Cond.code yX0_jumpOnTop cX0_jumpOnTop 3 none, Cond.methodLink RX0 155 yX0_branch, Cond.instanceMethod yX0_branch, Cond.selects RX0 yX0_branch yX0_branch, Cond.code yX0_branch cX0_branch 4 none, Cond.methodLink RX0 124 yX0_jumpOnLike, Cond.instanceMethod yX0_jumpOnLike, Cond.selects RX0 yX0_jumpOnLike yX0_jumpOnLike, Cond.code yX0_jumpOnLike cX0_jumpOnLike 3 none, Cond.methodLink RX0 127 yX0_enter, Cond.instanceMethod yX0_enter, Cond.selects RX0 yX0_enter yX0_enter, Cond.code yX0_enter cX0_enter 5 none, Cond.methodLink RX0 130 yX0_leave, Cond.instanceMethod yX0_leave, Cond.selects RX0 yX0_leave yX0_leave, Cond.code yX0_leave cX0_leave 4 none, Cond.methodLink RX0 133 yX0_halt, Cond.instanceMethod yX0_halt, Cond.selects RX0 yX0_halt yX0_halt, Cond.code yX0_halt cX0_halt 1 none]
def wsX0_step : List Cond := .code yX0_step cX0_step 2 none :: ((wsX0_step_r1 ++ (wsX0_step_r2 ++ (wsX0_step_r3 ++ (wsX0_step_r4 ++ wsX0_step_r5)))) ++ wsX00)
def wsX0_run_r1 : List Cond := [Cond.classLink RX0 59 "java/lang/IllegalArgumentException", Cond.initialized "java/lang/IllegalArgumentException", Cond.classLink RX0 64 "java/lang/IllegalStateException", Cond.initialized "java/lang/IllegalStateException", Cond.fieldLink RX0 33 "StackComputer" "state" "I", Cond.fieldLink RX0 39 "StackComputer" "instructions" "I", Cond.methodLink RX0 69 yX0_step, Cond.instanceMethod yX0_step, Cond.selects RX0 yX0_step yX0_step, Cond.initialized RX0, Cond.code yX0_step cX0_step 2 none, Cond.fieldLink RX0 17 "StackComputer" "pc" "I", Cond.fieldLink RX0 30 "StackComputer" "top" "I", Cond.methodLink RX0 53 yX0_areBytes, Cond.static yX0_areBytes, Cond.code yX0_areBytes cX0_areBytes 2 (some .boolean), Cond.methodLink RX0 74 yX0_fault, Cond.instanceMethod yX0_fault, Cond.selects RX0 yX0_fault yX0_fault, Cond.code yX0_fault cX0_fault 1 none, Cond.methodLink RX0 77 yX0_unsignedByte, Cond.instanceMethod yX0_unsignedByte, Cond.selects RX0 yX0_unsignedByte yX0_unsignedByte, Cond.code yX0_unsignedByte cX0_unsignedByte 2 (some .int)]
def wsX0_run_r2 : List Cond := [Cond.fieldLink RX0 13 "StackComputer" "bytes" "[B", Cond.methodLink RX0 81 yX0_finish, Cond.instanceMethod yX0_finish, Cond.selects RX0 yX0_finish yX0_finish, Cond.code yX0_finish cX0_finish 3 none, Cond.fieldLink RX0 36 "StackComputer" "cycles" "I", Cond.methodLink RX0 85 yX0_combine, Cond.instanceMethod yX0_combine, Cond.selects RX0 yX0_combine yX0_combine, Cond.code yX0_combine cX0_combine 3 none, Cond.fieldLink RX0 21 "StackComputer" "sp" "I", Cond.fieldLink RX0 9 "StackComputer" "words" "[I", Cond.methodLink RX0 42 yX0_isWord, Cond.static yX0_isWord, Cond.code yX0_isWord cX0_isWord 1 (some .boolean), Cond.methodLink RX0 139 yX0_combined, Cond.static yX0_combined, Cond.code yX0_combined cX0_combined 3 (some .int), Cond.methodLink RX0 89 yX0_push, Cond.instanceMethod yX0_push, Cond.selects RX0 yX0_push yX0_push, Cond.code yX0_push cX0_push 5 none, Cond.methodLink RX0 93 yX0_pop, Cond.instanceMethod yX0_pop]
def wsX0_run_r3 : List Cond := [Cond.selects RX0 yX0_pop yX0_pop, Cond.code yX0_pop cX0_pop 2 none, Cond.methodLink RX0 96 yX0_swap, Cond.instanceMethod yX0_swap, Cond.selects RX0 yX0_swap yX0_swap, Cond.code yX0_swap cX0_swap 3 none, Cond.methodLink RX0 99 yX0_pushByte, Cond.instanceMethod yX0_pushByte, Cond.selects RX0 yX0_pushByte yX0_pushByte, Cond.code yX0_pushByte cX0_pushByte 1 none, Cond.methodLink RX0 102 yX0_loadNarrow, Cond.instanceMethod yX0_loadNarrow, Cond.selects RX0 yX0_loadNarrow yX0_loadNarrow, Cond.code yX0_loadNarrow cX0_loadNarrow 1 none, Cond.fieldLink RX0 24 "StackComputer" "lv" "I", Cond.methodLink RX0 143 yX0_load, Cond.instanceMethod yX0_load, Cond.selects RX0 yX0_load yX0_load, Cond.code yX0_load cX0_load 4 none, Cond.methodLink RX0 105 yX0_storeNarrow, Cond.instanceMethod yX0_storeNarrow, Cond.selects RX0 yX0_storeNarrow yX0_storeNarrow, Cond.code yX0_storeNarrow cX0_storeNarrow 1 none, Cond.methodLink RX0 146 yX0_store]
def wsX0_run_r4 : List Cond := [Cond.instanceMethod yX0_store, Cond.selects RX0 yX0_store yX0_store, Cond.code yX0_store cX0_store 5 none, Cond.methodLink RX0 108 yX0_wide, Cond.instanceMethod yX0_wide, Cond.selects RX0 yX0_wide yX0_wide, Cond.code yX0_wide cX0_wide 3 none, Cond.methodLink RX0 136 yX0_trap, Cond.instanceMethod yX0_trap, Cond.selects RX0 yX0_trap yX0_trap, Cond.code yX0_trap cX0_trap 1 none, Cond.methodLink RX0 149 yX0_unsignedPair, Cond.instanceMethod yX0_unsignedPair, Cond.selects RX0 yX0_unsignedPair yX0_unsignedPair, Cond.code yX0_unsignedPair cX0_unsignedPair 2 (some .int), Cond.methodLink RX0 111 yX0_loadConstant, Cond.instanceMethod yX0_loadConstant, Cond.selects RX0 yX0_loadConstant yX0_loadConstant, Cond.code yX0_loadConstant cX0_loadConstant 1 none, Cond.fieldLink RX0 27 "StackComputer" "cpp" "I", Cond.methodLink RX0 114 yX0_increase, Cond.instanceMethod yX0_increase, Cond.selects RX0 yX0_increase yX0_increase, Cond.code yX0_increase cX0_increase 2 none]
def wsX0_run_r5 : List Cond := [Cond.methodLink RX0 117 yX0_jump, Cond.instanceMethod yX0_jump, Cond.selects RX0 yX0_jump yX0_jump, Cond.code yX0_jump cX0_jump 2 none, Cond.methodLink RX0 152 yX0_signedPair, Cond.instanceMethod yX0_signedPair, Cond.selects RX0 yX0_signedPair yX0_signedPair, Cond.code yX0_signedPair cX0_signedPair 2 (some .int), Cond.methodLink RX0 120 yX0_jumpOnTop, Cond.instanceMethod yX0_jumpOnTop, Cond.selects RX0 yX0_jumpOnTop yX0_jumpOnTop, Cond.code yX0_jumpOnTop cX0_jumpOnTop 3 none, Cond.methodLink RX0 155 yX0_branch, Cond.instanceMethod yX0_branch, Cond.selects RX0 yX0_branch yX0_branch, Cond.code yX0_branch cX0_branch 4 none, Cond.methodLink RX0 124 yX0_jumpOnLike, Cond.instanceMethod yX0_jumpOnLike, Cond.selects RX0 yX0_jumpOnLike yX0_jumpOnLike, Cond.code yX0_jumpOnLike cX0_jumpOnLike 3 none, Cond.methodLink RX0 127 yX0_enter, Cond.instanceMethod yX0_enter, Cond.selects RX0 yX0_enter yX0_enter, Cond.code yX0_enter cX0_enter 5 none]
def wsX0_run_r6 : List Cond := [Cond.methodLink RX0 130 yX0_leave, Cond.instanceMethod yX0_leave, Cond.selects RX0 yX0_leave yX0_leave, Cond.code yX0_leave cX0_leave 4 none, Cond.methodLink RX0 133 yX0_halt, Cond.instanceMethod yX0_halt, Cond.selects RX0 yX0_halt yX0_halt, Cond.code yX0_halt cX0_halt 1 none]
def wsX0_run : List Cond := .code yX0_run cX0_run 4 (some .int) :: ((wsX0_run_r1 ++ (wsX0_run_r2 ++ (wsX0_run_r3 ++ (wsX0_run_r4 ++ (wsX0_run_r5 ++ wsX0_run_r6))))) ++ wsX00 ++ (vx_atS RX0 63 "java/lang/IllegalArgumentException" ["java/lang/RuntimeException", "java/lang/Exception"]).filter goodWord ++ (vx_atS RX0 68 "java/lang/IllegalStateException" ["java/lang/RuntimeException", "java/lang/Exception"]).filter goodWord)
def wsX0_register : List Cond := .code yX0_register cX0_register 2 (some .int) :: ([.classLink RX0 59 "java/lang/IllegalArgumentException", .initialized "java/lang/IllegalArgumentException", .fieldLink RX0 17 "StackComputer" "pc" "I", .fieldLink RX0 21 "StackComputer" "sp" "I", .fieldLink RX0 24 "StackComputer" "lv" "I", .fieldLink RX0 27 "StackComputer" "cpp" "I", .fieldLink RX0 30 "StackComputer" "top" "I", .fieldLink RX0 33 "StackComputer" "state" "I", .fieldLink RX0 36 "StackComputer" "cycles" "I", .fieldLink RX0 39 "StackComputer" "instructions" "I"] ++ wsX00 ++ (vx_atS RX0 63 "java/lang/IllegalArgumentException" ["java/lang/RuntimeException", "java/lang/Exception"]).filter goodWord)
def wsX0_look : List Cond := .code yX0_look cX0_look 2 (some .int) :: ([.classLink RX0 46 "java/lang/IndexOutOfBoundsException", .initialized "java/lang/IndexOutOfBoundsException", .fieldLink RX0 9 "StackComputer" "words" "[I", .methodLink RX0 42 yX0_isWord, .static yX0_isWord, .initialized RX0, .code yX0_isWord cX0_isWord 1 (some .boolean)] ++ wsX00 ++ (vx_atS RX0 50 "java/lang/IndexOutOfBoundsException" ["java/lang/RuntimeException", "java/lang/Exception"]).filter goodWord)
def wsX0_sum : List Cond := .code yX0_sum cX0_sum 3 (some .int) :: ([.fieldLink RX0 9 "StackComputer" "words" "[I"] ++ wsX00)
def wsX1_init : List Cond := .code yX1_init cX1_init 1 none :: ([.methodLink RX1 1 objectInit, .instanceMethod objectInit, .code objectInit ⟨#[0xb1]⟩ 1 none, .arrayClass .int, .fieldLink RX1 7 "StackComputerModel" "words" "[I", .fieldLink RX1 13 "StackComputerModel" "bytes" "[I", .fieldLink RX1 16 "StackComputerModel" "places" "[I", .fieldLink RX1 19 "StackComputerModel" "before" "[I"] ++ wsX10)
def wsX1_thrown : List Cond := .code yX1_thrown cX1_thrown 1 (some .int) :: ([.fieldLink RX1 22 "StackComputerModel" "thrown" "I"] ++ wsX10)
def wsX1_isWord : List Cond := .code yX1_isWord cX1_isWord 1 (some .boolean) :: ([])
def wsX1_word : List Cond := .code yX1_word cX1_word 3 none :: ([.fieldLink RX1 22 "StackComputerModel" "thrown" "I", .fieldLink RX1 7 "StackComputerModel" "words" "[I", .methodLink RX1 26 yX1_isWord, .static yX1_isWord, .initialized RX1, .code yX1_isWord cX1_isWord 1 (some .boolean)] ++ wsX10)
def wsX1_code : List Cond := .code yX1_code cX1_code 4 none :: ([.fieldLink RX1 22 "StackComputerModel" "thrown" "I", .fieldLink RX1 13 "StackComputerModel" "bytes" "[I"] ++ wsX10)
def wsX1_boot : List Cond := .code yX1_boot cX1_boot 5 none :: ([.fieldLink RX1 22 "StackComputerModel" "thrown" "I", .fieldLink RX1 30 "StackComputerModel" "pc" "I", .fieldLink RX1 33 "StackComputerModel" "sp" "I", .fieldLink RX1 36 "StackComputerModel" "lv" "I", .fieldLink RX1 39 "StackComputerModel" "cpp" "I", .fieldLink RX1 7 "StackComputerModel" "words" "[I", .fieldLink RX1 42 "StackComputerModel" "top" "I", .fieldLink RX1 45 "StackComputerModel" "state" "I", .fieldLink RX1 48 "StackComputerModel" "cycles" "I", .fieldLink RX1 51 "StackComputerModel" "done" "I", .methodLink RX1 26 yX1_isWord, .static yX1_isWord, .initialized RX1, .code yX1_isWord cX1_isWord 1 (some .boolean)] ++ wsX10)
def wsX1_read : List Cond := .code yX1_read cX1_read 2 (some .int) :: ([.fieldLink RX1 54 "StackComputerModel" "amiss" "Z", .fieldLink RX1 7 "StackComputerModel" "words" "[I", .methodLink RX1 26 yX1_isWord, .static yX1_isWord, .initialized RX1, .code yX1_isWord cX1_isWord 1 (some .boolean)] ++ wsX10)
def wsX1_write : List Cond := .code yX1_write cX1_write 3 none :: ([.fieldLink RX1 54 "StackComputerModel" "amiss" "Z", .fieldLink RX1 16 "StackComputerModel" "places" "[I", .fieldLink RX1 58 "StackComputerModel" "writes" "I", .fieldLink RX1 19 "StackComputerModel" "before" "[I", .fieldLink RX1 7 "StackComputerModel" "words" "[I", .methodLink RX1 26 yX1_isWord, .static yX1_isWord, .initialized RX1, .code yX1_isWord cX1_isWord 1 (some .boolean)] ++ wsX10)
def wsX1_byteAt : List Cond := .code yX1_byteAt cX1_byteAt 3 (some .int) :: ([.fieldLink RX1 54 "StackComputerModel" "amiss" "Z", .fieldLink RX1 13 "StackComputerModel" "bytes" "[I"] ++ wsX10)
def wsX1_pair : List Cond := .code yX1_pair cX1_pair 3 (some .int) :: ([.methodLink RX1 61 yX1_byteAt, .instanceMethod yX1_byteAt, .selects RX1 yX1_byteAt yX1_byteAt, .initialized RX1, .code yX1_byteAt cX1_byteAt 3 (some .int), .fieldLink RX1 54 "StackComputerModel" "amiss" "Z", .fieldLink RX1 13 "StackComputerModel" "bytes" "[I"] ++ wsX10)
def wsX1_signed : List Cond := .code yX1_signed cX1_signed 2 (some .int) :: ([])
def wsX1_reckon : List Cond := .code yX1_reckon cX1_reckon 3 (some .int) :: ([.fieldLink RX1 33 "StackComputerModel" "sp" "I", .fieldLink RX1 42 "StackComputerModel" "top" "I", .methodLink RX1 65 yX1_read, .instanceMethod yX1_read, .selects RX1 yX1_read yX1_read, .initialized RX1, .code yX1_read cX1_read 2 (some .int), .fieldLink RX1 54 "StackComputerModel" "amiss" "Z", .fieldLink RX1 7 "StackComputerModel" "words" "[I", .methodLink RX1 26 yX1_isWord, .static yX1_isWord, .code yX1_isWord cX1_isWord 1 (some .boolean), .methodLink RX1 68 yX1_write, .instanceMethod yX1_write, .selects RX1 yX1_write yX1_write, .code yX1_write cX1_write 3 none, .fieldLink RX1 16 "StackComputerModel" "places" "[I", .fieldLink RX1 58 "StackComputerModel" "writes" "I", .fieldLink RX1 19 "StackComputerModel" "before" "[I"] ++ wsX10)
def wsX1_push : List Cond := .code yX1_push cX1_push 4 (some .int) :: ([.fieldLink RX1 33 "StackComputerModel" "sp" "I", .fieldLink RX1 42 "StackComputerModel" "top" "I", .fieldLink RX1 30 "StackComputerModel" "pc" "I", .fieldLink RX1 72 "StackComputerModel" "next" "I", .methodLink RX1 68 yX1_write, .instanceMethod yX1_write, .selects RX1 yX1_write yX1_write, .initialized RX1, .code yX1_write cX1_write 3 none, .fieldLink RX1 54 "StackComputerModel" "amiss" "Z", .fieldLink RX1 16 "StackComputerModel" "places" "[I", .fieldLink RX1 58 "StackComputerModel" "writes" "I", .fieldLink RX1 19 "StackComputerModel" "before" "[I", .fieldLink RX1 7 "StackComputerModel" "words" "[I", .methodLink RX1 26 yX1_isWord, .static yX1_isWord, .code yX1_isWord cX1_isWord 1 (some .boolean)] ++ wsX10)
def wsX1_store : List Cond := .code yX1_store cX1_store 4 (some .int) :: ([.fieldLink RX1 42 "StackComputerModel" "top" "I", .fieldLink RX1 33 "StackComputerModel" "sp" "I", .fieldLink RX1 30 "StackComputerModel" "pc" "I", .fieldLink RX1 72 "StackComputerModel" "next" "I", .methodLink RX1 68 yX1_write, .instanceMethod yX1_write, .selects RX1 yX1_write yX1_write, .initialized RX1, .code yX1_write cX1_write 3 none, .fieldLink RX1 54 "StackComputerModel" "amiss" "Z", .fieldLink RX1 16 "StackComputerModel" "places" "[I", .fieldLink RX1 58 "StackComputerModel" "writes" "I", .fieldLink RX1 19 "StackComputerModel" "before" "[I", .fieldLink RX1 7 "StackComputerModel" "words" "[I", .methodLink RX1 26 yX1_isWord, .static yX1_isWord, .code yX1_isWord cX1_isWord 1 (some .boolean), .methodLink RX1 65 yX1_read, .instanceMethod yX1_read, .selects RX1 yX1_read yX1_read, .code yX1_read cX1_read 2 (some .int)] ++ wsX10)
def wsX1_swap : List Cond := .code yX1_swap cX1_swap 2 (some .int) :: ([.fieldLink RX1 33 "StackComputerModel" "sp" "I", .fieldLink RX1 42 "StackComputerModel" "top" "I", .methodLink RX1 65 yX1_read, .instanceMethod yX1_read, .selects RX1 yX1_read yX1_read, .initialized RX1, .code yX1_read cX1_read 2 (some .int), .fieldLink RX1 54 "StackComputerModel" "amiss" "Z", .fieldLink RX1 7 "StackComputerModel" "words" "[I", .methodLink RX1 26 yX1_isWord, .static yX1_isWord, .code yX1_isWord cX1_isWord 1 (some .boolean), .methodLink RX1 68 yX1_write, .instanceMethod yX1_write, .selects RX1 yX1_write yX1_write, .code yX1_write cX1_write 3 none, .fieldLink RX1 16 "StackComputerModel" "places" "[I", .fieldLink RX1 58 "StackComputerModel" "writes" "I", .fieldLink RX1 19 "StackComputerModel" "before" "[I"] ++ wsX10)
def wsX1_wide_r1 : List Cond := [Cond.fieldLink RX1 30 "StackComputerModel" "pc" "I", Cond.fieldLink RX1 54 "StackComputerModel" "amiss" "Z", Cond.fieldLink RX1 75 "StackComputerModel" "unknown" "Z", Cond.fieldLink RX1 36 "StackComputerModel" "lv" "I", Cond.methodLink RX1 61 yX1_byteAt, Cond.instanceMethod yX1_byteAt, Cond.selects RX1 yX1_byteAt yX1_byteAt, Cond.initialized RX1, Cond.code yX1_byteAt cX1_byteAt 3 (some .int), Cond.fieldLink RX1 13 "StackComputerModel" "bytes" "[I", Cond.methodLink RX1 78 yX1_pair, Cond.instanceMethod yX1_pair, Cond.selects RX1 yX1_pair yX1_pair, Cond.code yX1_pair cX1_pair 3 (some .int), Cond.methodLink RX1 65 yX1_read, Cond.instanceMethod yX1_read, Cond.selects RX1 yX1_read yX1_read, Cond.code yX1_read cX1_read 2 (some .int), Cond.fieldLink RX1 7 "StackComputerModel" "words" "[I", Cond.methodLink RX1 26 yX1_isWord, Cond.static yX1_isWord, Cond.code yX1_isWord cX1_isWord 1 (some .boolean), Cond.methodLink RX1 81 yX1_push, Cond.instanceMethod yX1_push]
def wsX1_wide_r2 : List Cond := [Cond.selects RX1 yX1_push yX1_push, Cond.code yX1_push cX1_push 4 (some .int), Cond.fieldLink RX1 33 "StackComputerModel" "sp" "I", Cond.fieldLink RX1 42 "StackComputerModel" "top" "I", Cond.fieldLink RX1 72 "StackComputerModel" "next" "I", Cond.methodLink RX1 68 yX1_write, Cond.instanceMethod yX1_write, Cond.selects RX1 yX1_write yX1_write, Cond.code yX1_write cX1_write 3 none, Cond.fieldLink RX1 16 "StackComputerModel" "places" "[I", Cond.fieldLink RX1 58 "StackComputerModel" "writes" "I", Cond.fieldLink RX1 19 "StackComputerModel" "before" "[I", Cond.methodLink RX1 85 yX1_store, Cond.instanceMethod yX1_store, Cond.selects RX1 yX1_store yX1_store, Cond.code yX1_store cX1_store 4 (some .int)]
def wsX1_wide : List Cond := .code yX1_wide cX1_wide 3 (some .int) :: ((wsX1_wide_r1 ++ wsX1_wide_r2) ++ wsX10)
def wsX1_increase_r1 : List Cond := [Cond.fieldLink RX1 36 "StackComputerModel" "lv" "I", Cond.fieldLink RX1 30 "StackComputerModel" "pc" "I", Cond.fieldLink RX1 72 "StackComputerModel" "next" "I", Cond.methodLink RX1 61 yX1_byteAt, Cond.instanceMethod yX1_byteAt, Cond.selects RX1 yX1_byteAt yX1_byteAt, Cond.initialized RX1, Cond.code yX1_byteAt cX1_byteAt 3 (some .int), Cond.fieldLink RX1 54 "StackComputerModel" "amiss" "Z", Cond.fieldLink RX1 13 "StackComputerModel" "bytes" "[I", Cond.methodLink RX1 88 yX1_signed, Cond.static yX1_signed, Cond.code yX1_signed cX1_signed 2 (some .int), Cond.methodLink RX1 65 yX1_read, Cond.instanceMethod yX1_read, Cond.selects RX1 yX1_read yX1_read, Cond.code yX1_read cX1_read 2 (some .int), Cond.fieldLink RX1 7 "StackComputerModel" "words" "[I", Cond.methodLink RX1 26 yX1_isWord, Cond.static yX1_isWord, Cond.code yX1_isWord cX1_isWord 1 (some .boolean), Cond.methodLink RX1 68 yX1_write, Cond.instanceMethod yX1_write, Cond.selects RX1 yX1_write yX1_write]
def wsX1_increase_r2 : List Cond := [Cond.code yX1_write cX1_write 3 none, Cond.fieldLink RX1 16 "StackComputerModel" "places" "[I", Cond.fieldLink RX1 58 "StackComputerModel" "writes" "I", Cond.fieldLink RX1 19 "StackComputerModel" "before" "[I"]
def wsX1_increase : List Cond := .code yX1_increase cX1_increase 3 (some .int) :: ((wsX1_increase_r1 ++ wsX1_increase_r2) ++ wsX10)
def wsX1_jump : List Cond := .code yX1_jump cX1_jump 4 (some .int) :: ([.fieldLink RX1 30 "StackComputerModel" "pc" "I", .fieldLink RX1 72 "StackComputerModel" "next" "I", .methodLink RX1 78 yX1_pair, .instanceMethod yX1_pair, .selects RX1 yX1_pair yX1_pair, .initialized RX1, .code yX1_pair cX1_pair 3 (some .int), .methodLink RX1 61 yX1_byteAt, .instanceMethod yX1_byteAt, .selects RX1 yX1_byteAt yX1_byteAt, .code yX1_byteAt cX1_byteAt 3 (some .int), .fieldLink RX1 54 "StackComputerModel" "amiss" "Z", .fieldLink RX1 13 "StackComputerModel" "bytes" "[I", .methodLink RX1 88 yX1_signed, .static yX1_signed, .code yX1_signed cX1_signed 2 (some .int)] ++ wsX10)
def wsX1_ifs_r1 : List Cond := [Cond.fieldLink RX1 42 "StackComputerModel" "top" "I", Cond.fieldLink RX1 33 "StackComputerModel" "sp" "I", Cond.methodLink RX1 65 yX1_read, Cond.instanceMethod yX1_read, Cond.selects RX1 yX1_read yX1_read, Cond.initialized RX1, Cond.code yX1_read cX1_read 2 (some .int), Cond.fieldLink RX1 54 "StackComputerModel" "amiss" "Z", Cond.fieldLink RX1 7 "StackComputerModel" "words" "[I", Cond.methodLink RX1 26 yX1_isWord, Cond.static yX1_isWord, Cond.code yX1_isWord cX1_isWord 1 (some .boolean), Cond.methodLink RX1 92 yX1_jump, Cond.instanceMethod yX1_jump, Cond.selects RX1 yX1_jump yX1_jump, Cond.code yX1_jump cX1_jump 4 (some .int), Cond.fieldLink RX1 30 "StackComputerModel" "pc" "I", Cond.fieldLink RX1 72 "StackComputerModel" "next" "I", Cond.methodLink RX1 78 yX1_pair, Cond.instanceMethod yX1_pair, Cond.selects RX1 yX1_pair yX1_pair, Cond.code yX1_pair cX1_pair 3 (some .int), Cond.methodLink RX1 61 yX1_byteAt, Cond.instanceMethod yX1_byteAt]
def wsX1_ifs_r2 : List Cond := [Cond.selects RX1 yX1_byteAt yX1_byteAt, Cond.code yX1_byteAt cX1_byteAt 3 (some .int), Cond.fieldLink RX1 13 "StackComputerModel" "bytes" "[I", Cond.methodLink RX1 88 yX1_signed, Cond.static yX1_signed, Cond.code yX1_signed cX1_signed 2 (some .int)]
def wsX1_ifs : List Cond := .code yX1_ifs cX1_ifs 4 (some .int) :: ((wsX1_ifs_r1 ++ wsX1_ifs_r2) ++ wsX10)
def wsX1_call_r1 : List Cond := [Cond.fieldLink RX1 39 "StackComputerModel" "cpp" "I", Cond.fieldLink RX1 30 "StackComputerModel" "pc" "I", Cond.fieldLink RX1 33 "StackComputerModel" "sp" "I", Cond.fieldLink RX1 36 "StackComputerModel" "lv" "I", Cond.fieldLink RX1 42 "StackComputerModel" "top" "I", Cond.fieldLink RX1 72 "StackComputerModel" "next" "I", Cond.methodLink RX1 78 yX1_pair, Cond.instanceMethod yX1_pair, Cond.selects RX1 yX1_pair yX1_pair, Cond.initialized RX1, Cond.code yX1_pair cX1_pair 3 (some .int), Cond.methodLink RX1 61 yX1_byteAt, Cond.instanceMethod yX1_byteAt, Cond.selects RX1 yX1_byteAt yX1_byteAt, Cond.code yX1_byteAt cX1_byteAt 3 (some .int), Cond.fieldLink RX1 54 "StackComputerModel" "amiss" "Z", Cond.fieldLink RX1 13 "StackComputerModel" "bytes" "[I", Cond.methodLink RX1 65 yX1_read, Cond.instanceMethod yX1_read, Cond.selects RX1 yX1_read yX1_read, Cond.code yX1_read cX1_read 2 (some .int), Cond.fieldLink RX1 7 "StackComputerModel" "words" "[I", Cond.methodLink RX1 26 yX1_isWord, Cond.static yX1_isWord]
def wsX1_call_r2 : List Cond := [Cond.code yX1_isWord cX1_isWord 1 (some .boolean), Cond.methodLink RX1 68 yX1_write, Cond.instanceMethod yX1_write, Cond.selects RX1 yX1_write yX1_write, Cond.code yX1_write cX1_write 3 none, Cond.fieldLink RX1 16 "StackComputerModel" "places" "[I", Cond.fieldLink RX1 58 "StackComputerModel" "writes" "I", Cond.fieldLink RX1 19 "StackComputerModel" "before" "[I"]
def wsX1_call : List Cond := .code yX1_call cX1_call 6 (some .int) :: ((wsX1_call_r1 ++ wsX1_call_r2) ++ wsX10)
def wsX1_giveBack : List Cond := .code yX1_giveBack cX1_giveBack 2 (some .int) :: ([.fieldLink RX1 36 "StackComputerModel" "lv" "I", .fieldLink RX1 33 "StackComputerModel" "sp" "I", .fieldLink RX1 72 "StackComputerModel" "next" "I", .fieldLink RX1 42 "StackComputerModel" "top" "I", .methodLink RX1 65 yX1_read, .instanceMethod yX1_read, .selects RX1 yX1_read yX1_read, .initialized RX1, .code yX1_read cX1_read 2 (some .int), .fieldLink RX1 54 "StackComputerModel" "amiss" "Z", .fieldLink RX1 7 "StackComputerModel" "words" "[I", .methodLink RX1 26 yX1_isWord, .static yX1_isWord, .code yX1_isWord cX1_isWord 1 (some .boolean), .methodLink RX1 68 yX1_write, .instanceMethod yX1_write, .selects RX1 yX1_write yX1_write, .code yX1_write cX1_write 3 none, .fieldLink RX1 16 "StackComputerModel" "places" "[I", .fieldLink RX1 58 "StackComputerModel" "writes" "I", .fieldLink RX1 19 "StackComputerModel" "before" "[I"] ++ wsX10)
def wsX1_perform_r1 : List Cond := [Cond.fieldLink RX1 30 "StackComputerModel" "pc" "I", Cond.fieldLink RX1 72 "StackComputerModel" "next" "I", Cond.fieldLink RX1 42 "StackComputerModel" "top" "I", Cond.fieldLink RX1 33 "StackComputerModel" "sp" "I", Cond.fieldLink RX1 36 "StackComputerModel" "lv" "I", Cond.fieldLink RX1 39 "StackComputerModel" "cpp" "I", Cond.fieldLink RX1 75 "StackComputerModel" "unknown" "Z", Cond.methodLink RX1 96 yX1_reckon, Cond.instanceMethod yX1_reckon, Cond.selects RX1 yX1_reckon yX1_reckon, Cond.initialized RX1, Cond.code yX1_reckon cX1_reckon 3 (some .int), Cond.methodLink RX1 65 yX1_read, Cond.instanceMethod yX1_read, Cond.selects RX1 yX1_read yX1_read, Cond.code yX1_read cX1_read 2 (some .int), Cond.fieldLink RX1 54 "StackComputerModel" "amiss" "Z", Cond.fieldLink RX1 7 "StackComputerModel" "words" "[I", Cond.methodLink RX1 26 yX1_isWord, Cond.static yX1_isWord, Cond.code yX1_isWord cX1_isWord 1 (some .boolean), Cond.methodLink RX1 68 yX1_write, Cond.instanceMethod yX1_write, Cond.selects RX1 yX1_write yX1_write]
def wsX1_perform_r2 : List Cond := [Cond.code yX1_write cX1_write 3 none, Cond.fieldLink RX1 16 "StackComputerModel" "places" "[I", Cond.fieldLink RX1 58 "StackComputerModel" "writes" "I", Cond.fieldLink RX1 19 "StackComputerModel" "before" "[I", Cond.methodLink RX1 81 yX1_push, Cond.instanceMethod yX1_push, Cond.selects RX1 yX1_push yX1_push, Cond.code yX1_push cX1_push 4 (some .int), Cond.methodLink RX1 99 yX1_swap, Cond.instanceMethod yX1_swap, Cond.selects RX1 yX1_swap yX1_swap, Cond.code yX1_swap cX1_swap 2 (some .int), Cond.methodLink RX1 61 yX1_byteAt, Cond.instanceMethod yX1_byteAt, Cond.selects RX1 yX1_byteAt yX1_byteAt, Cond.code yX1_byteAt cX1_byteAt 3 (some .int), Cond.fieldLink RX1 13 "StackComputerModel" "bytes" "[I", Cond.methodLink RX1 88 yX1_signed, Cond.static yX1_signed, Cond.code yX1_signed cX1_signed 2 (some .int), Cond.methodLink RX1 85 yX1_store, Cond.instanceMethod yX1_store, Cond.selects RX1 yX1_store yX1_store, Cond.code yX1_store cX1_store 4 (some .int)]
def wsX1_perform_r3 : List Cond := [Cond.methodLink RX1 103 yX1_wide, Cond.instanceMethod yX1_wide, Cond.selects RX1 yX1_wide yX1_wide, Cond.code yX1_wide cX1_wide 3 (some .int), Cond.methodLink RX1 78 yX1_pair, Cond.instanceMethod yX1_pair, Cond.selects RX1 yX1_pair yX1_pair, Cond.code yX1_pair cX1_pair 3 (some .int), Cond.methodLink RX1 106 yX1_increase, Cond.instanceMethod yX1_increase, Cond.selects RX1 yX1_increase yX1_increase, Cond.code yX1_increase cX1_increase 3 (some .int), Cond.methodLink RX1 92 yX1_jump, Cond.instanceMethod yX1_jump, Cond.selects RX1 yX1_jump yX1_jump, Cond.code yX1_jump cX1_jump 4 (some .int), Cond.methodLink RX1 109 yX1_ifs, Cond.instanceMethod yX1_ifs, Cond.selects RX1 yX1_ifs yX1_ifs, Cond.code yX1_ifs cX1_ifs 4 (some .int), Cond.methodLink RX1 112 yX1_call, Cond.instanceMethod yX1_call, Cond.selects RX1 yX1_call yX1_call, Cond.code yX1_call cX1_call 6 (some .int)]
def wsX1_perform_r4 : List Cond := [Cond.methodLink RX1 115 yX1_giveBack, Cond.instanceMethod yX1_giveBack, Cond.selects RX1 yX1_giveBack yX1_giveBack, Cond.code yX1_giveBack cX1_giveBack 2 (some .int)]
def wsX1_perform : List Cond := .code yX1_perform cX1_perform 2 (some .int) :: ((wsX1_perform_r1 ++ (wsX1_perform_r2 ++ (wsX1_perform_r3 ++ wsX1_perform_r4))) ++ wsX10)
def wsX1_step_r1 : List Cond := [Cond.fieldLink RX1 33 "StackComputerModel" "sp" "I", Cond.fieldLink RX1 36 "StackComputerModel" "lv" "I", Cond.fieldLink RX1 42 "StackComputerModel" "top" "I", Cond.fieldLink RX1 54 "StackComputerModel" "amiss" "Z", Cond.fieldLink RX1 75 "StackComputerModel" "unknown" "Z", Cond.fieldLink RX1 58 "StackComputerModel" "writes" "I", Cond.fieldLink RX1 30 "StackComputerModel" "pc" "I", Cond.fieldLink RX1 72 "StackComputerModel" "next" "I", Cond.fieldLink RX1 48 "StackComputerModel" "cycles" "I", Cond.fieldLink RX1 51 "StackComputerModel" "done" "I", Cond.fieldLink RX1 45 "StackComputerModel" "state" "I", Cond.fieldLink RX1 7 "StackComputerModel" "words" "[I", Cond.fieldLink RX1 16 "StackComputerModel" "places" "[I", Cond.fieldLink RX1 19 "StackComputerModel" "before" "[I", Cond.methodLink RX1 61 yX1_byteAt, Cond.instanceMethod yX1_byteAt, Cond.selects RX1 yX1_byteAt yX1_byteAt, Cond.initialized RX1, Cond.code yX1_byteAt cX1_byteAt 3 (some .int), Cond.fieldLink RX1 13 "StackComputerModel" "bytes" "[I", Cond.methodLink RX1 118 yX1_perform, Cond.instanceMethod yX1_perform, Cond.selects RX1 yX1_perform yX1_perform, Cond.code yX1_perform cX1_perform 2 (some .int)]
def wsX1_step_r2 : List Cond := [Cond.fieldLink RX1 39 "StackComputerModel" "cpp" "I", Cond.methodLink RX1 96 yX1_reckon, Cond.instanceMethod yX1_reckon, Cond.selects RX1 yX1_reckon yX1_reckon, Cond.code yX1_reckon cX1_reckon 3 (some .int), Cond.methodLink RX1 65 yX1_read, Cond.instanceMethod yX1_read, Cond.selects RX1 yX1_read yX1_read, Cond.code yX1_read cX1_read 2 (some .int), Cond.methodLink RX1 26 yX1_isWord, Cond.static yX1_isWord, Cond.code yX1_isWord cX1_isWord 1 (some .boolean), Cond.methodLink RX1 68 yX1_write, Cond.instanceMethod yX1_write, Cond.selects RX1 yX1_write yX1_write, Cond.code yX1_write cX1_write 3 none, Cond.methodLink RX1 81 yX1_push, Cond.instanceMethod yX1_push, Cond.selects RX1 yX1_push yX1_push, Cond.code yX1_push cX1_push 4 (some .int), Cond.methodLink RX1 99 yX1_swap, Cond.instanceMethod yX1_swap, Cond.selects RX1 yX1_swap yX1_swap, Cond.code yX1_swap cX1_swap 2 (some .int)]
def wsX1_step_r3 : List Cond := [Cond.methodLink RX1 88 yX1_signed, Cond.static yX1_signed, Cond.code yX1_signed cX1_signed 2 (some .int), Cond.methodLink RX1 85 yX1_store, Cond.instanceMethod yX1_store, Cond.selects RX1 yX1_store yX1_store, Cond.code yX1_store cX1_store 4 (some .int), Cond.methodLink RX1 103 yX1_wide, Cond.instanceMethod yX1_wide, Cond.selects RX1 yX1_wide yX1_wide, Cond.code yX1_wide cX1_wide 3 (some .int), Cond.methodLink RX1 78 yX1_pair, Cond.instanceMethod yX1_pair, Cond.selects RX1 yX1_pair yX1_pair, Cond.code yX1_pair cX1_pair 3 (some .int), Cond.methodLink RX1 106 yX1_increase, Cond.instanceMethod yX1_increase, Cond.selects RX1 yX1_increase yX1_increase, Cond.code yX1_increase cX1_increase 3 (some .int), Cond.methodLink RX1 92 yX1_jump, Cond.instanceMethod yX1_jump, Cond.selects RX1 yX1_jump yX1_jump, Cond.code yX1_jump cX1_jump 4 (some .int), Cond.methodLink RX1 109 yX1_ifs]
def wsX1_step_r4 : List Cond := [Cond.instanceMethod yX1_ifs, Cond.selects RX1 yX1_ifs yX1_ifs, Cond.code yX1_ifs cX1_ifs 4 (some .int), Cond.methodLink RX1 112 yX1_call, Cond.instanceMethod yX1_call, Cond.selects RX1 yX1_call yX1_call, Cond.code yX1_call cX1_call 6 (some .int), Cond.methodLink RX1 115 yX1_giveBack, Cond.instanceMethod yX1_giveBack, Cond.selects RX1 yX1_giveBack yX1_giveBack, Cond.code yX1_giveBack cX1_giveBack 2 (some .int)]
def wsX1_step : List Cond := .code yX1_step cX1_step 6 none :: ((wsX1_step_r1 ++ (wsX1_step_r2 ++ (wsX1_step_r3 ++ wsX1_step_r4))) ++ wsX10)
def wsX1_run_r1 : List Cond := [Cond.fieldLink RX1 45 "StackComputerModel" "state" "I", Cond.fieldLink RX1 22 "StackComputerModel" "thrown" "I", Cond.fieldLink RX1 51 "StackComputerModel" "done" "I", Cond.methodLink RX1 121 yX1_step, Cond.instanceMethod yX1_step, Cond.selects RX1 yX1_step yX1_step, Cond.initialized RX1, Cond.code yX1_step cX1_step 6 none, Cond.fieldLink RX1 33 "StackComputerModel" "sp" "I", Cond.fieldLink RX1 36 "StackComputerModel" "lv" "I", Cond.fieldLink RX1 42 "StackComputerModel" "top" "I", Cond.fieldLink RX1 54 "StackComputerModel" "amiss" "Z", Cond.fieldLink RX1 75 "StackComputerModel" "unknown" "Z", Cond.fieldLink RX1 58 "StackComputerModel" "writes" "I", Cond.fieldLink RX1 30 "StackComputerModel" "pc" "I", Cond.fieldLink RX1 72 "StackComputerModel" "next" "I", Cond.fieldLink RX1 48 "StackComputerModel" "cycles" "I", Cond.fieldLink RX1 7 "StackComputerModel" "words" "[I", Cond.fieldLink RX1 16 "StackComputerModel" "places" "[I", Cond.fieldLink RX1 19 "StackComputerModel" "before" "[I", Cond.methodLink RX1 61 yX1_byteAt, Cond.instanceMethod yX1_byteAt, Cond.selects RX1 yX1_byteAt yX1_byteAt, Cond.code yX1_byteAt cX1_byteAt 3 (some .int)]
def wsX1_run_r2 : List Cond := [Cond.fieldLink RX1 13 "StackComputerModel" "bytes" "[I", Cond.methodLink RX1 118 yX1_perform, Cond.instanceMethod yX1_perform, Cond.selects RX1 yX1_perform yX1_perform, Cond.code yX1_perform cX1_perform 2 (some .int), Cond.fieldLink RX1 39 "StackComputerModel" "cpp" "I", Cond.methodLink RX1 96 yX1_reckon, Cond.instanceMethod yX1_reckon, Cond.selects RX1 yX1_reckon yX1_reckon, Cond.code yX1_reckon cX1_reckon 3 (some .int), Cond.methodLink RX1 65 yX1_read, Cond.instanceMethod yX1_read, Cond.selects RX1 yX1_read yX1_read, Cond.code yX1_read cX1_read 2 (some .int), Cond.methodLink RX1 26 yX1_isWord, Cond.static yX1_isWord, Cond.code yX1_isWord cX1_isWord 1 (some .boolean), Cond.methodLink RX1 68 yX1_write, Cond.instanceMethod yX1_write, Cond.selects RX1 yX1_write yX1_write, Cond.code yX1_write cX1_write 3 none, Cond.methodLink RX1 81 yX1_push, Cond.instanceMethod yX1_push, Cond.selects RX1 yX1_push yX1_push]
def wsX1_run_r3 : List Cond := [Cond.code yX1_push cX1_push 4 (some .int), Cond.methodLink RX1 99 yX1_swap, Cond.instanceMethod yX1_swap, Cond.selects RX1 yX1_swap yX1_swap, Cond.code yX1_swap cX1_swap 2 (some .int), Cond.methodLink RX1 88 yX1_signed, Cond.static yX1_signed, Cond.code yX1_signed cX1_signed 2 (some .int), Cond.methodLink RX1 85 yX1_store, Cond.instanceMethod yX1_store, Cond.selects RX1 yX1_store yX1_store, Cond.code yX1_store cX1_store 4 (some .int), Cond.methodLink RX1 103 yX1_wide, Cond.instanceMethod yX1_wide, Cond.selects RX1 yX1_wide yX1_wide, Cond.code yX1_wide cX1_wide 3 (some .int), Cond.methodLink RX1 78 yX1_pair, Cond.instanceMethod yX1_pair, Cond.selects RX1 yX1_pair yX1_pair, Cond.code yX1_pair cX1_pair 3 (some .int), Cond.methodLink RX1 106 yX1_increase, Cond.instanceMethod yX1_increase, Cond.selects RX1 yX1_increase yX1_increase, Cond.code yX1_increase cX1_increase 3 (some .int)]
def wsX1_run_r4 : List Cond := [Cond.methodLink RX1 92 yX1_jump, Cond.instanceMethod yX1_jump, Cond.selects RX1 yX1_jump yX1_jump, Cond.code yX1_jump cX1_jump 4 (some .int), Cond.methodLink RX1 109 yX1_ifs, Cond.instanceMethod yX1_ifs, Cond.selects RX1 yX1_ifs yX1_ifs, Cond.code yX1_ifs cX1_ifs 4 (some .int), Cond.methodLink RX1 112 yX1_call, Cond.instanceMethod yX1_call, Cond.selects RX1 yX1_call yX1_call, Cond.code yX1_call cX1_call 6 (some .int), Cond.methodLink RX1 115 yX1_giveBack, Cond.instanceMethod yX1_giveBack, Cond.selects RX1 yX1_giveBack yX1_giveBack, Cond.code yX1_giveBack cX1_giveBack 2 (some .int)]
def wsX1_run : List Cond := .code yX1_run cX1_run 4 (some .int) :: ((wsX1_run_r1 ++ (wsX1_run_r2 ++ (wsX1_run_r3 ++ wsX1_run_r4))) ++ wsX10)
def wsX1_register : List Cond := .code yX1_register cX1_register 2 (some .int) :: ([.fieldLink RX1 22 "StackComputerModel" "thrown" "I", .fieldLink RX1 30 "StackComputerModel" "pc" "I", .fieldLink RX1 33 "StackComputerModel" "sp" "I", .fieldLink RX1 36 "StackComputerModel" "lv" "I", .fieldLink RX1 39 "StackComputerModel" "cpp" "I", .fieldLink RX1 42 "StackComputerModel" "top" "I", .fieldLink RX1 45 "StackComputerModel" "state" "I", .fieldLink RX1 48 "StackComputerModel" "cycles" "I", .fieldLink RX1 51 "StackComputerModel" "done" "I"] ++ wsX10)
def wsX1_look : List Cond := .code yX1_look cX1_look 2 (some .int) :: ([.fieldLink RX1 22 "StackComputerModel" "thrown" "I", .fieldLink RX1 7 "StackComputerModel" "words" "[I", .methodLink RX1 26 yX1_isWord, .static yX1_isWord, .initialized RX1, .code yX1_isWord cX1_isWord 1 (some .boolean)] ++ wsX10)
def wsX1_sum : List Cond := .code yX1_sum cX1_sum 3 (some .int) :: ([.fieldLink RX1 22 "StackComputerModel" "thrown" "I", .fieldLink RX1 7 "StackComputerModel" "words" "[I"] ++ wsX10)
def wsL_word : List Cond := .codeWith yL_word cL_word 4 (some .int) [(0, 6, 9, 13)] :: ([.classLink RL 13 "java/lang/IndexOutOfBoundsException", .methodLink RL 7 yX0_word, .instanceMethod yX0_word, .selects RX0 yX0_word yX0_word, .initialized RX0, .code yX0_word cX0_word 3 none, .classLink RX0 46 "java/lang/IndexOutOfBoundsException", .initialized "java/lang/IndexOutOfBoundsException", .fieldLink RX0 9 "StackComputer" "words" "[I", .methodLink RX0 42 yX0_isWord, .static yX0_isWord, .code yX0_isWord cX0_isWord 1 (some .boolean)] ++ wsX00 ++ (vx_atS RX0 50 "java/lang/IndexOutOfBoundsException" ["java/lang/RuntimeException", "java/lang/Exception"]).filter goodWord)
def wsL_code : List Cond := .codeWith yL_code cL_code 4 (some .int) [(0, 6, 9, 13)] :: ([.classLink RL 13 "java/lang/IndexOutOfBoundsException", .methodLink RL 15 yX0_code, .instanceMethod yX0_code, .selects RX0 yX0_code yX0_code, .initialized RX0, .code yX0_code cX0_code 3 none, .classLink RX0 46 "java/lang/IndexOutOfBoundsException", .initialized "java/lang/IndexOutOfBoundsException", .fieldLink RX0 13 "StackComputer" "bytes" "[B", .methodLink RX0 53 yX0_areBytes, .static yX0_areBytes, .code yX0_areBytes cX0_areBytes 2 (some .boolean)] ++ wsX00 ++ (vx_atS RX0 50 "java/lang/IndexOutOfBoundsException" ["java/lang/RuntimeException", "java/lang/Exception"]).filter goodWord)
def wsL_run_r1 : List Cond := [Cond.classLink RL 22 "java/lang/IllegalArgumentException", Cond.classLink RL 24 "java/lang/IllegalStateException", Cond.methodLink RL 18 yX0_run, Cond.instanceMethod yX0_run, Cond.selects RX0 yX0_run yX0_run, Cond.initialized RX0, Cond.code yX0_run cX0_run 4 (some .int), Cond.classLink RX0 59 "java/lang/IllegalArgumentException", Cond.initialized "java/lang/IllegalArgumentException", Cond.classLink RX0 64 "java/lang/IllegalStateException", Cond.initialized "java/lang/IllegalStateException", Cond.fieldLink RX0 33 "StackComputer" "state" "I", Cond.fieldLink RX0 39 "StackComputer" "instructions" "I", Cond.methodLink RX0 69 yX0_step, Cond.instanceMethod yX0_step, Cond.selects RX0 yX0_step yX0_step, Cond.code yX0_step cX0_step 2 none, Cond.fieldLink RX0 17 "StackComputer" "pc" "I", Cond.fieldLink RX0 30 "StackComputer" "top" "I", Cond.methodLink RX0 53 yX0_areBytes, Cond.static yX0_areBytes, Cond.code yX0_areBytes cX0_areBytes 2 (some .boolean), Cond.methodLink RX0 74 yX0_fault, Cond.instanceMethod yX0_fault]
def wsL_run_r2 : List Cond := [Cond.selects RX0 yX0_fault yX0_fault, Cond.code yX0_fault cX0_fault 1 none, Cond.methodLink RX0 77 yX0_unsignedByte, Cond.instanceMethod yX0_unsignedByte, Cond.selects RX0 yX0_unsignedByte yX0_unsignedByte, Cond.code yX0_unsignedByte cX0_unsignedByte 2 (some .int), Cond.fieldLink RX0 13 "StackComputer" "bytes" "[B", Cond.methodLink RX0 81 yX0_finish, Cond.instanceMethod yX0_finish, Cond.selects RX0 yX0_finish yX0_finish, Cond.code yX0_finish cX0_finish 3 none, Cond.fieldLink RX0 36 "StackComputer" "cycles" "I", Cond.methodLink RX0 85 yX0_combine, Cond.instanceMethod yX0_combine, Cond.selects RX0 yX0_combine yX0_combine, Cond.code yX0_combine cX0_combine 3 none, Cond.fieldLink RX0 21 "StackComputer" "sp" "I", Cond.fieldLink RX0 9 "StackComputer" "words" "[I", Cond.methodLink RX0 42 yX0_isWord, Cond.static yX0_isWord, Cond.code yX0_isWord cX0_isWord 1 (some .boolean), Cond.methodLink RX0 139 yX0_combined, Cond.static yX0_combined, Cond.code yX0_combined cX0_combined 3 (some .int)]
def wsL_run_r3 : List Cond := [Cond.methodLink RX0 89 yX0_push, Cond.instanceMethod yX0_push, Cond.selects RX0 yX0_push yX0_push, Cond.code yX0_push cX0_push 5 none, Cond.methodLink RX0 93 yX0_pop, Cond.instanceMethod yX0_pop, Cond.selects RX0 yX0_pop yX0_pop, Cond.code yX0_pop cX0_pop 2 none, Cond.methodLink RX0 96 yX0_swap, Cond.instanceMethod yX0_swap, Cond.selects RX0 yX0_swap yX0_swap, Cond.code yX0_swap cX0_swap 3 none, Cond.methodLink RX0 99 yX0_pushByte, Cond.instanceMethod yX0_pushByte, Cond.selects RX0 yX0_pushByte yX0_pushByte, Cond.code yX0_pushByte cX0_pushByte 1 none, Cond.methodLink RX0 102 yX0_loadNarrow, Cond.instanceMethod yX0_loadNarrow, Cond.selects RX0 yX0_loadNarrow yX0_loadNarrow, Cond.code yX0_loadNarrow cX0_loadNarrow 1 none, Cond.fieldLink RX0 24 "StackComputer" "lv" "I", Cond.methodLink RX0 143 yX0_load, Cond.instanceMethod yX0_load, Cond.selects RX0 yX0_load yX0_load]
def wsL_run_r4 : List Cond := [Cond.code yX0_load cX0_load 4 none, Cond.methodLink RX0 105 yX0_storeNarrow, Cond.instanceMethod yX0_storeNarrow, Cond.selects RX0 yX0_storeNarrow yX0_storeNarrow, Cond.code yX0_storeNarrow cX0_storeNarrow 1 none, Cond.methodLink RX0 146 yX0_store, Cond.instanceMethod yX0_store, Cond.selects RX0 yX0_store yX0_store, Cond.code yX0_store cX0_store 5 none, Cond.methodLink RX0 108 yX0_wide, Cond.instanceMethod yX0_wide, Cond.selects RX0 yX0_wide yX0_wide, Cond.code yX0_wide cX0_wide 3 none, Cond.methodLink RX0 136 yX0_trap, Cond.instanceMethod yX0_trap, Cond.selects RX0 yX0_trap yX0_trap, Cond.code yX0_trap cX0_trap 1 none, Cond.methodLink RX0 149 yX0_unsignedPair, Cond.instanceMethod yX0_unsignedPair, Cond.selects RX0 yX0_unsignedPair yX0_unsignedPair, Cond.code yX0_unsignedPair cX0_unsignedPair 2 (some .int), Cond.methodLink RX0 111 yX0_loadConstant, Cond.instanceMethod yX0_loadConstant, Cond.selects RX0 yX0_loadConstant yX0_loadConstant]
def wsL_run_r5 : List Cond := [Cond.code yX0_loadConstant cX0_loadConstant 1 none, Cond.fieldLink RX0 27 "StackComputer" "cpp" "I", Cond.methodLink RX0 114 yX0_increase, Cond.instanceMethod yX0_increase, Cond.selects RX0 yX0_increase yX0_increase, Cond.code yX0_increase cX0_increase 2 none, Cond.methodLink RX0 117 yX0_jump, Cond.instanceMethod yX0_jump, Cond.selects RX0 yX0_jump yX0_jump, Cond.code yX0_jump cX0_jump 2 none, Cond.methodLink RX0 152 yX0_signedPair, Cond.instanceMethod yX0_signedPair, Cond.selects RX0 yX0_signedPair yX0_signedPair, Cond.code yX0_signedPair cX0_signedPair 2 (some .int), Cond.methodLink RX0 120 yX0_jumpOnTop, Cond.instanceMethod yX0_jumpOnTop, Cond.selects RX0 yX0_jumpOnTop yX0_jumpOnTop, Cond.code yX0_jumpOnTop cX0_jumpOnTop 3 none, Cond.methodLink RX0 155 yX0_branch, Cond.instanceMethod yX0_branch, Cond.selects RX0 yX0_branch yX0_branch, Cond.code yX0_branch cX0_branch 4 none, Cond.methodLink RX0 124 yX0_jumpOnLike, Cond.instanceMethod yX0_jumpOnLike]
def wsL_run_r6 : List Cond := [Cond.selects RX0 yX0_jumpOnLike yX0_jumpOnLike, Cond.code yX0_jumpOnLike cX0_jumpOnLike 3 none, Cond.methodLink RX0 127 yX0_enter, Cond.instanceMethod yX0_enter, Cond.selects RX0 yX0_enter yX0_enter, Cond.code yX0_enter cX0_enter 5 none, Cond.methodLink RX0 130 yX0_leave, Cond.instanceMethod yX0_leave, Cond.selects RX0 yX0_leave yX0_leave, Cond.code yX0_leave cX0_leave 4 none, Cond.methodLink RX0 133 yX0_halt, Cond.instanceMethod yX0_halt, Cond.selects RX0 yX0_halt yX0_halt, Cond.code yX0_halt cX0_halt 1 none]
def wsL_run : List Cond := .codeWith yL_run cL_run 4 (some .int) [(0, 9, 12, 22), (0, 9, 15, 24)] :: ((wsL_run_r1 ++ (wsL_run_r2 ++ (wsL_run_r3 ++ (wsL_run_r4 ++ (wsL_run_r5 ++ wsL_run_r6))))) ++ wsX00 ++ (vx_atS RX0 63 "java/lang/IllegalArgumentException" ["java/lang/RuntimeException", "java/lang/Exception"]).filter goodWord ++ (vx_atS RX0 68 "java/lang/IllegalStateException" ["java/lang/RuntimeException", "java/lang/Exception"]).filter goodWord)
def wsL_register : List Cond := .codeWith yL_register cL_register 4 (some .int) [(0, 9, 12, 22)] :: ([.classLink RL 22 "java/lang/IllegalArgumentException", .methodLink RL 26 yX0_register, .instanceMethod yX0_register, .selects RX0 yX0_register yX0_register, .initialized RX0, .code yX0_register cX0_register 2 (some .int), .classLink RX0 59 "java/lang/IllegalArgumentException", .initialized "java/lang/IllegalArgumentException", .fieldLink RX0 17 "StackComputer" "pc" "I", .fieldLink RX0 21 "StackComputer" "sp" "I", .fieldLink RX0 24 "StackComputer" "lv" "I", .fieldLink RX0 27 "StackComputer" "cpp" "I", .fieldLink RX0 30 "StackComputer" "top" "I", .fieldLink RX0 33 "StackComputer" "state" "I", .fieldLink RX0 36 "StackComputer" "cycles" "I", .fieldLink RX0 39 "StackComputer" "instructions" "I"] ++ wsX00 ++ (vx_atS RX0 63 "java/lang/IllegalArgumentException" ["java/lang/RuntimeException", "java/lang/Exception"]).filter goodWord)
def wsL_look : List Cond := .codeWith yL_look cL_look 4 (some .int) [(0, 9, 12, 13)] :: ([.classLink RL 13 "java/lang/IndexOutOfBoundsException", .methodLink RL 29 yX0_look, .instanceMethod yX0_look, .selects RX0 yX0_look yX0_look, .initialized RX0, .code yX0_look cX0_look 2 (some .int), .classLink RX0 46 "java/lang/IndexOutOfBoundsException", .initialized "java/lang/IndexOutOfBoundsException", .fieldLink RX0 9 "StackComputer" "words" "[I", .methodLink RX0 42 yX0_isWord, .static yX0_isWord, .code yX0_isWord cX0_isWord 1 (some .boolean)] ++ wsX00 ++ (vx_atS RX0 50 "java/lang/IndexOutOfBoundsException" ["java/lang/RuntimeException", "java/lang/Exception"]).filter goodWord)
abbrev vwCl : List vw_C := [(RX0, TX0, 10), (RX1, TX1, 17)]
end
section
theorem dX0_init_0 : decode cX0_init 0 = .ok (.aload_n 0, 1) := by decide +kernel
theorem dX0_init_1 : decode cX0_init 1 = .ok (.invokespecial 1, 3) := by decide +kernel
theorem dX0_init_4 : decode cX0_init 4 = .ok (.aload_n 0, 1) := by decide +kernel
theorem dX0_init_5 : decode cX0_init 5 = .ok (.sipush 256, 3) := by decide +kernel
theorem dX0_init_8 : decode cX0_init 8 = .ok (.newarray .int, 2) := by decide +kernel
theorem dX0_init_10 : decode cX0_init 10 = .ok (.putfield 9, 3) := by decide +kernel
theorem dX0_init_13 : decode cX0_init 13 = .ok (.aload_n 0, 1) := by decide +kernel
theorem dX0_init_14 : decode cX0_init 14 = .ok (.sipush 512, 3) := by decide +kernel
theorem dX0_init_17 : decode cX0_init 17 = .ok (.newarray .byte, 2) := by decide +kernel
theorem dX0_init_19 : decode cX0_init 19 = .ok (.putfield 13, 3) := by decide +kernel
theorem dX0_init_22 : decode cX0_init 22 = .ok (.aload_n 0, 1) := by decide +kernel
theorem dX0_init_23 : decode cX0_init 23 = .ok (.iconst 0, 1) := by decide +kernel
theorem dX0_init_24 : decode cX0_init 24 = .ok (.putfield 17, 3) := by decide +kernel
theorem dX0_init_27 : decode cX0_init 27 = .ok (.aload_n 0, 1) := by decide +kernel
theorem dX0_init_28 : decode cX0_init 28 = .ok (.iconst 0, 1) := by decide +kernel
theorem dX0_init_29 : decode cX0_init 29 = .ok (.putfield 21, 3) := by decide +kernel
theorem dX0_init_32 : decode cX0_init 32 = .ok (.aload_n 0, 1) := by decide +kernel
theorem dX0_init_33 : decode cX0_init 33 = .ok (.iconst 0, 1) := by decide +kernel
theorem dX0_init_34 : decode cX0_init 34 = .ok (.putfield 24, 3) := by decide +kernel
theorem dX0_init_37 : decode cX0_init 37 = .ok (.aload_n 0, 1) := by decide +kernel
theorem dX0_init_38 : decode cX0_init 38 = .ok (.iconst 0, 1) := by decide +kernel
theorem dX0_init_39 : decode cX0_init 39 = .ok (.putfield 27, 3) := by decide +kernel
theorem dX0_init_42 : decode cX0_init 42 = .ok (.aload_n 0, 1) := by decide +kernel
theorem dX0_init_43 : decode cX0_init 43 = .ok (.iconst 0, 1) := by decide +kernel
theorem dX0_init_44 : decode cX0_init 44 = .ok (.putfield 30, 3) := by decide +kernel
theorem dX0_init_47 : decode cX0_init 47 = .ok (.aload_n 0, 1) := by decide +kernel
theorem dX0_init_48 : decode cX0_init 48 = .ok (.iconst 0, 1) := by decide +kernel
theorem dX0_init_49 : decode cX0_init 49 = .ok (.putfield 33, 3) := by decide +kernel
theorem dX0_init_52 : decode cX0_init 52 = .ok (.aload_n 0, 1) := by decide +kernel
theorem dX0_init_53 : decode cX0_init 53 = .ok (.iconst 0, 1) := by decide +kernel
theorem dX0_init_54 : decode cX0_init 54 = .ok (.putfield 36, 3) := by decide +kernel
theorem dX0_init_57 : decode cX0_init 57 = .ok (.aload_n 0, 1) := by decide +kernel
theorem dX0_init_58 : decode cX0_init 58 = .ok (.iconst 0, 1) := by decide +kernel
theorem dX0_init_59 : decode cX0_init 59 = .ok (.putfield 39, 3) := by decide +kernel
theorem dX0_init_62 : decode cX0_init 62 = .ok (.return_, 1) := by decide +kernel
theorem dX0_word_0 : decode cX0_word 0 = .ok (.iload_n 1, 1) := by decide +kernel
theorem dX0_word_1 : decode cX0_word 1 = .ok (.invokestatic 42, 3) := by decide +kernel
theorem dX0_word_4 : decode cX0_word 4 = .ok (.ifCond .ne 13, 3) := by decide +kernel
theorem dX0_word_7 : decode cX0_word 7 = .ok (.new 46, 3) := by decide +kernel
theorem dX0_word_10 : decode cX0_word 10 = .ok (.dup, 1) := by decide +kernel
theorem dX0_word_11 : decode cX0_word 11 = .ok (.ldc 48, 2) := by decide +kernel
theorem dX0_word_13 : decode cX0_word 13 = .ok (.invokespecial 50, 3) := by decide +kernel
theorem dX0_word_16 : decode cX0_word 16 = .ok (.athrow, 1) := by decide +kernel
theorem dX0_word_17 : decode cX0_word 17 = .ok (.aload_n 0, 1) := by decide +kernel
theorem dX0_word_18 : decode cX0_word 18 = .ok (.getfield 9, 3) := by decide +kernel
theorem dX0_word_21 : decode cX0_word 21 = .ok (.iload_n 1, 1) := by decide +kernel
theorem dX0_word_22 : decode cX0_word 22 = .ok (.iload_n 2, 1) := by decide +kernel
theorem dX0_word_23 : decode cX0_word 23 = .ok (.iastore, 1) := by decide +kernel
theorem dX0_word_24 : decode cX0_word 24 = .ok (.return_, 1) := by decide +kernel
theorem dX0_code_0 : decode cX0_code 0 = .ok (.iload_n 1, 1) := by decide +kernel
theorem dX0_code_1 : decode cX0_code 1 = .ok (.iconst 4, 1) := by decide +kernel
theorem dX0_code_2 : decode cX0_code 2 = .ok (.invokestatic 53, 3) := by decide +kernel
theorem dX0_code_5 : decode cX0_code 5 = .ok (.ifCond .ne 13, 3) := by decide +kernel
theorem dX0_code_8 : decode cX0_code 8 = .ok (.new 46, 3) := by decide +kernel
theorem dX0_code_11 : decode cX0_code 11 = .ok (.dup, 1) := by decide +kernel
theorem dX0_code_12 : decode cX0_code 12 = .ok (.ldc 57, 2) := by decide +kernel
theorem dX0_code_14 : decode cX0_code 14 = .ok (.invokespecial 50, 3) := by decide +kernel
theorem dX0_code_17 : decode cX0_code 17 = .ok (.athrow, 1) := by decide +kernel
theorem dX0_code_18 : decode cX0_code 18 = .ok (.aload_n 0, 1) := by decide +kernel
theorem dX0_code_19 : decode cX0_code 19 = .ok (.getfield 13, 3) := by decide +kernel
theorem dX0_code_22 : decode cX0_code 22 = .ok (.iload_n 1, 1) := by decide +kernel
theorem dX0_code_23 : decode cX0_code 23 = .ok (.iload_n 2, 1) := by decide +kernel
theorem dX0_code_24 : decode cX0_code 24 = .ok (.i2b, 1) := by decide +kernel
theorem dX0_code_25 : decode cX0_code 25 = .ok (.bastore, 1) := by decide +kernel
theorem dX0_code_26 : decode cX0_code 26 = .ok (.aload_n 0, 1) := by decide +kernel
theorem dX0_code_27 : decode cX0_code 27 = .ok (.getfield 13, 3) := by decide +kernel
theorem dX0_code_30 : decode cX0_code 30 = .ok (.iload_n 1, 1) := by decide +kernel
theorem dX0_code_31 : decode cX0_code 31 = .ok (.iconst 1, 1) := by decide +kernel
theorem dX0_code_32 : decode cX0_code 32 = .ok (.iadd, 1) := by decide +kernel
theorem dX0_code_33 : decode cX0_code 33 = .ok (.iload_n 2, 1) := by decide +kernel
theorem dX0_code_34 : decode cX0_code 34 = .ok (.bipush 8, 2) := by decide +kernel
theorem dX0_code_36 : decode cX0_code 36 = .ok (.ishr, 1) := by decide +kernel
theorem dX0_code_37 : decode cX0_code 37 = .ok (.i2b, 1) := by decide +kernel
theorem dX0_code_38 : decode cX0_code 38 = .ok (.bastore, 1) := by decide +kernel
theorem dX0_code_39 : decode cX0_code 39 = .ok (.aload_n 0, 1) := by decide +kernel
theorem dX0_code_40 : decode cX0_code 40 = .ok (.getfield 13, 3) := by decide +kernel
theorem dX0_code_43 : decode cX0_code 43 = .ok (.iload_n 1, 1) := by decide +kernel
theorem dX0_code_44 : decode cX0_code 44 = .ok (.iconst 2, 1) := by decide +kernel
theorem dX0_code_45 : decode cX0_code 45 = .ok (.iadd, 1) := by decide +kernel
theorem dX0_code_46 : decode cX0_code 46 = .ok (.iload_n 2, 1) := by decide +kernel
theorem dX0_code_47 : decode cX0_code 47 = .ok (.bipush 16, 2) := by decide +kernel
theorem dX0_code_49 : decode cX0_code 49 = .ok (.ishr, 1) := by decide +kernel
theorem dX0_code_50 : decode cX0_code 50 = .ok (.i2b, 1) := by decide +kernel
theorem dX0_code_51 : decode cX0_code 51 = .ok (.bastore, 1) := by decide +kernel
theorem dX0_code_52 : decode cX0_code 52 = .ok (.aload_n 0, 1) := by decide +kernel
theorem dX0_code_53 : decode cX0_code 53 = .ok (.getfield 13, 3) := by decide +kernel
theorem dX0_code_56 : decode cX0_code 56 = .ok (.iload_n 1, 1) := by decide +kernel
theorem dX0_code_57 : decode cX0_code 57 = .ok (.iconst 3, 1) := by decide +kernel
theorem dX0_code_58 : decode cX0_code 58 = .ok (.iadd, 1) := by decide +kernel
theorem dX0_code_59 : decode cX0_code 59 = .ok (.iload_n 2, 1) := by decide +kernel
theorem dX0_code_60 : decode cX0_code 60 = .ok (.bipush 24, 2) := by decide +kernel
theorem dX0_code_62 : decode cX0_code 62 = .ok (.ishr, 1) := by decide +kernel
theorem dX0_code_63 : decode cX0_code 63 = .ok (.i2b, 1) := by decide +kernel
theorem dX0_code_64 : decode cX0_code 64 = .ok (.bastore, 1) := by decide +kernel
theorem dX0_code_65 : decode cX0_code 65 = .ok (.return_, 1) := by decide +kernel
theorem dX0_boot_0 : decode cX0_boot 0 = .ok (.aload_n 0, 1) := by decide +kernel
theorem dX0_boot_1 : decode cX0_boot 1 = .ok (.iload_n 1, 1) := by decide +kernel
theorem dX0_boot_2 : decode cX0_boot 2 = .ok (.putfield 17, 3) := by decide +kernel
theorem dX0_boot_5 : decode cX0_boot 5 = .ok (.aload_n 0, 1) := by decide +kernel
theorem dX0_boot_6 : decode cX0_boot 6 = .ok (.iload_n 2, 1) := by decide +kernel
theorem dX0_boot_7 : decode cX0_boot 7 = .ok (.putfield 21, 3) := by decide +kernel
theorem dX0_boot_10 : decode cX0_boot 10 = .ok (.aload_n 0, 1) := by decide +kernel
theorem dX0_boot_11 : decode cX0_boot 11 = .ok (.iload_n 3, 1) := by decide +kernel
theorem dX0_boot_12 : decode cX0_boot 12 = .ok (.putfield 24, 3) := by decide +kernel
theorem dX0_boot_15 : decode cX0_boot 15 = .ok (.aload_n 0, 1) := by decide +kernel
theorem dX0_boot_16 : decode cX0_boot 16 = .ok (.iload 4, 2) := by decide +kernel
theorem dX0_boot_18 : decode cX0_boot 18 = .ok (.putfield 27, 3) := by decide +kernel
theorem dX0_boot_21 : decode cX0_boot 21 = .ok (.aload_n 0, 1) := by decide +kernel
theorem dX0_boot_22 : decode cX0_boot 22 = .ok (.iload_n 2, 1) := by decide +kernel
theorem dX0_boot_23 : decode cX0_boot 23 = .ok (.invokestatic 42, 3) := by decide +kernel
theorem dX0_boot_26 : decode cX0_boot 26 = .ok (.ifCond .eq 12, 3) := by decide +kernel
theorem dX0_boot_29 : decode cX0_boot 29 = .ok (.aload_n 0, 1) := by decide +kernel
theorem dX0_boot_30 : decode cX0_boot 30 = .ok (.getfield 9, 3) := by decide +kernel
theorem dX0_boot_33 : decode cX0_boot 33 = .ok (.iload_n 2, 1) := by decide +kernel
theorem dX0_boot_34 : decode cX0_boot 34 = .ok (.iaload, 1) := by decide +kernel
theorem dX0_boot_35 : decode cX0_boot 35 = .ok (.goto 4, 3) := by decide +kernel
theorem dX0_boot_38 : decode cX0_boot 38 = .ok (.iconst 0, 1) := by decide +kernel
theorem dX0_boot_39 : decode cX0_boot 39 = .ok (.putfield 30, 3) := by decide +kernel
theorem dX0_boot_42 : decode cX0_boot 42 = .ok (.aload_n 0, 1) := by decide +kernel
theorem dX0_boot_43 : decode cX0_boot 43 = .ok (.iconst 0, 1) := by decide +kernel
theorem dX0_boot_44 : decode cX0_boot 44 = .ok (.putfield 33, 3) := by decide +kernel
theorem dX0_boot_47 : decode cX0_boot 47 = .ok (.aload_n 0, 1) := by decide +kernel
theorem dX0_boot_48 : decode cX0_boot 48 = .ok (.iconst 0, 1) := by decide +kernel
theorem dX0_boot_49 : decode cX0_boot 49 = .ok (.putfield 36, 3) := by decide +kernel
theorem dX0_boot_52 : decode cX0_boot 52 = .ok (.aload_n 0, 1) := by decide +kernel
theorem dX0_boot_53 : decode cX0_boot 53 = .ok (.iconst 0, 1) := by decide +kernel
theorem dX0_boot_54 : decode cX0_boot 54 = .ok (.putfield 39, 3) := by decide +kernel
theorem dX0_boot_57 : decode cX0_boot 57 = .ok (.return_, 1) := by decide +kernel
theorem dX0_run_0 : decode cX0_run 0 = .ok (.iload_n 1, 1) := by decide +kernel
theorem dX0_run_1 : decode cX0_run 1 = .ok (.ifCond .lt 10, 3) := by decide +kernel
theorem dX0_run_4 : decode cX0_run 4 = .ok (.iload_n 1, 1) := by decide +kernel
theorem dX0_run_5 : decode cX0_run 5 = .ok (.sipush 1000, 3) := by decide +kernel
theorem dX0_run_8 : decode cX0_run 8 = .ok (.if_icmp .le 13, 3) := by decide +kernel
theorem dX0_run_11 : decode cX0_run 11 = .ok (.new 59, 3) := by decide +kernel
theorem dX0_run_14 : decode cX0_run 14 = .ok (.dup, 1) := by decide +kernel
theorem dX0_run_15 : decode cX0_run 15 = .ok (.ldc 61, 2) := by decide +kernel
theorem dX0_run_17 : decode cX0_run 17 = .ok (.invokespecial 63, 3) := by decide +kernel
theorem dX0_run_20 : decode cX0_run 20 = .ok (.athrow, 1) := by decide +kernel
theorem dX0_run_21 : decode cX0_run 21 = .ok (.aload_n 0, 1) := by decide +kernel
theorem dX0_run_22 : decode cX0_run 22 = .ok (.getfield 33, 3) := by decide +kernel
theorem dX0_run_25 : decode cX0_run 25 = .ok (.ifCond .eq 13, 3) := by decide +kernel
theorem dX0_run_28 : decode cX0_run 28 = .ok (.new 64, 3) := by decide +kernel
theorem dX0_run_31 : decode cX0_run 31 = .ok (.dup, 1) := by decide +kernel
theorem dX0_run_32 : decode cX0_run 32 = .ok (.ldc 66, 2) := by decide +kernel
theorem dX0_run_34 : decode cX0_run 34 = .ok (.invokespecial 68, 3) := by decide +kernel
theorem dX0_run_37 : decode cX0_run 37 = .ok (.athrow, 1) := by decide +kernel
theorem dX0_run_38 : decode cX0_run 38 = .ok (.aload_n 0, 1) := by decide +kernel
theorem dX0_run_39 : decode cX0_run 39 = .ok (.getfield 39, 3) := by decide +kernel
theorem dX0_run_42 : decode cX0_run 42 = .ok (.istore_n 2, 1) := by decide +kernel
theorem dX0_run_43 : decode cX0_run 43 = .ok (.iconst 0, 1) := by decide +kernel
theorem dX0_run_44 : decode cX0_run 44 = .ok (.istore_n 3, 1) := by decide +kernel
theorem dX0_run_45 : decode cX0_run 45 = .ok (.iload_n 3, 1) := by decide +kernel
theorem dX0_run_46 : decode cX0_run 46 = .ok (.iload_n 1, 1) := by decide +kernel
theorem dX0_run_47 : decode cX0_run 47 = .ok (.if_icmp .ge 20, 3) := by decide +kernel
theorem dX0_run_50 : decode cX0_run 50 = .ok (.aload_n 0, 1) := by decide +kernel
theorem dX0_run_51 : decode cX0_run 51 = .ok (.getfield 33, 3) := by decide +kernel
theorem dX0_run_54 : decode cX0_run 54 = .ok (.ifCond .ne 13, 3) := by decide +kernel
theorem dX0_run_57 : decode cX0_run 57 = .ok (.aload_n 0, 1) := by decide +kernel
theorem dX0_run_58 : decode cX0_run 58 = .ok (.invokevirtual 69, 3) := by decide +kernel
theorem dX0_run_61 : decode cX0_run 61 = .ok (.iinc 3 1, 3) := by decide +kernel
theorem dX0_run_64 : decode cX0_run 64 = .ok (.goto (-19), 3) := by decide +kernel
theorem dX0_run_67 : decode cX0_run 67 = .ok (.aload_n 0, 1) := by decide +kernel
theorem dX0_run_68 : decode cX0_run 68 = .ok (.getfield 39, 3) := by decide +kernel
theorem dX0_run_71 : decode cX0_run 71 = .ok (.iload_n 2, 1) := by decide +kernel
theorem dX0_run_72 : decode cX0_run 72 = .ok (.isub, 1) := by decide +kernel
theorem dX0_run_73 : decode cX0_run 73 = .ok (.ireturn, 1) := by decide +kernel
theorem dX0_register_0 : decode cX0_register 0 = .ok (.iload_n 1, 1) := by decide +kernel
theorem dX0_register_1 : decode cX0_register 1 = .ok (.tableswitch 87 0 7 #[47, 52, 57, 62, 67, 72, 77, 82], 47) := by decide +kernel
theorem dX0_register_48 : decode cX0_register 48 = .ok (.aload_n 0, 1) := by decide +kernel
theorem dX0_register_49 : decode cX0_register 49 = .ok (.getfield 17, 3) := by decide +kernel
theorem dX0_register_52 : decode cX0_register 52 = .ok (.ireturn, 1) := by decide +kernel
theorem dX0_register_53 : decode cX0_register 53 = .ok (.aload_n 0, 1) := by decide +kernel
theorem dX0_register_54 : decode cX0_register 54 = .ok (.getfield 21, 3) := by decide +kernel
theorem dX0_register_57 : decode cX0_register 57 = .ok (.ireturn, 1) := by decide +kernel
theorem dX0_register_58 : decode cX0_register 58 = .ok (.aload_n 0, 1) := by decide +kernel
theorem dX0_register_59 : decode cX0_register 59 = .ok (.getfield 24, 3) := by decide +kernel
theorem dX0_register_62 : decode cX0_register 62 = .ok (.ireturn, 1) := by decide +kernel
theorem dX0_register_63 : decode cX0_register 63 = .ok (.aload_n 0, 1) := by decide +kernel
theorem dX0_register_64 : decode cX0_register 64 = .ok (.getfield 27, 3) := by decide +kernel
theorem dX0_register_67 : decode cX0_register 67 = .ok (.ireturn, 1) := by decide +kernel
theorem dX0_register_68 : decode cX0_register 68 = .ok (.aload_n 0, 1) := by decide +kernel
theorem dX0_register_69 : decode cX0_register 69 = .ok (.getfield 30, 3) := by decide +kernel
theorem dX0_register_72 : decode cX0_register 72 = .ok (.ireturn, 1) := by decide +kernel
theorem dX0_register_73 : decode cX0_register 73 = .ok (.aload_n 0, 1) := by decide +kernel
theorem dX0_register_74 : decode cX0_register 74 = .ok (.getfield 33, 3) := by decide +kernel
theorem dX0_register_77 : decode cX0_register 77 = .ok (.ireturn, 1) := by decide +kernel
theorem dX0_register_78 : decode cX0_register 78 = .ok (.aload_n 0, 1) := by decide +kernel
theorem dX0_register_79 : decode cX0_register 79 = .ok (.getfield 36, 3) := by decide +kernel
theorem dX0_register_82 : decode cX0_register 82 = .ok (.ireturn, 1) := by decide +kernel
theorem dX0_register_83 : decode cX0_register 83 = .ok (.aload_n 0, 1) := by decide +kernel
theorem dX0_register_84 : decode cX0_register 84 = .ok (.getfield 39, 3) := by decide +kernel
theorem dX0_register_87 : decode cX0_register 87 = .ok (.ireturn, 1) := by decide +kernel
theorem dX0_register_88 : decode cX0_register 88 = .ok (.new 59, 3) := by decide +kernel
theorem dX0_register_91 : decode cX0_register 91 = .ok (.dup, 1) := by decide +kernel
theorem dX0_register_92 : decode cX0_register 92 = .ok (.ldc 72, 2) := by decide +kernel
theorem dX0_register_94 : decode cX0_register 94 = .ok (.invokespecial 63, 3) := by decide +kernel
theorem dX0_register_97 : decode cX0_register 97 = .ok (.athrow, 1) := by decide +kernel
theorem dX0_look_0 : decode cX0_look 0 = .ok (.iload_n 1, 1) := by decide +kernel
theorem dX0_look_1 : decode cX0_look 1 = .ok (.invokestatic 42, 3) := by decide +kernel
theorem dX0_look_4 : decode cX0_look 4 = .ok (.ifCond .ne 13, 3) := by decide +kernel
theorem dX0_look_7 : decode cX0_look 7 = .ok (.new 46, 3) := by decide +kernel
theorem dX0_look_10 : decode cX0_look 10 = .ok (.dup, 1) := by decide +kernel
theorem dX0_look_11 : decode cX0_look 11 = .ok (.ldc 48, 2) := by decide +kernel
theorem dX0_look_13 : decode cX0_look 13 = .ok (.invokespecial 50, 3) := by decide +kernel
theorem dX0_look_16 : decode cX0_look 16 = .ok (.athrow, 1) := by decide +kernel
theorem dX0_look_17 : decode cX0_look 17 = .ok (.aload_n 0, 1) := by decide +kernel
theorem dX0_look_18 : decode cX0_look 18 = .ok (.getfield 9, 3) := by decide +kernel
theorem dX0_look_21 : decode cX0_look 21 = .ok (.iload_n 1, 1) := by decide +kernel
theorem dX0_look_22 : decode cX0_look 22 = .ok (.iaload, 1) := by decide +kernel
theorem dX0_look_23 : decode cX0_look 23 = .ok (.ireturn, 1) := by decide +kernel
theorem dX0_sum_0 : decode cX0_sum 0 = .ok (.iconst 0, 1) := by decide +kernel
theorem dX0_sum_1 : decode cX0_sum 1 = .ok (.istore_n 1, 1) := by decide +kernel
theorem dX0_sum_2 : decode cX0_sum 2 = .ok (.iconst 0, 1) := by decide +kernel
theorem dX0_sum_3 : decode cX0_sum 3 = .ok (.istore_n 2, 1) := by decide +kernel
theorem dX0_sum_4 : decode cX0_sum 4 = .ok (.iload_n 2, 1) := by decide +kernel
theorem dX0_sum_5 : decode cX0_sum 5 = .ok (.sipush 256, 3) := by decide +kernel
theorem dX0_sum_8 : decode cX0_sum 8 = .ok (.if_icmp .ge 21, 3) := by decide +kernel
theorem dX0_sum_11 : decode cX0_sum 11 = .ok (.bipush 31, 2) := by decide +kernel
theorem dX0_sum_13 : decode cX0_sum 13 = .ok (.iload_n 1, 1) := by decide +kernel
theorem dX0_sum_14 : decode cX0_sum 14 = .ok (.imul, 1) := by decide +kernel
theorem dX0_sum_15 : decode cX0_sum 15 = .ok (.aload_n 0, 1) := by decide +kernel
theorem dX0_sum_16 : decode cX0_sum 16 = .ok (.getfield 9, 3) := by decide +kernel
theorem dX0_sum_19 : decode cX0_sum 19 = .ok (.iload_n 2, 1) := by decide +kernel
theorem dX0_sum_20 : decode cX0_sum 20 = .ok (.iaload, 1) := by decide +kernel
theorem dX0_sum_21 : decode cX0_sum 21 = .ok (.iadd, 1) := by decide +kernel
theorem dX0_sum_22 : decode cX0_sum 22 = .ok (.istore_n 1, 1) := by decide +kernel
theorem dX0_sum_23 : decode cX0_sum 23 = .ok (.iinc 2 1, 3) := by decide +kernel
theorem dX0_sum_26 : decode cX0_sum 26 = .ok (.goto (-22), 3) := by decide +kernel
theorem dX0_sum_29 : decode cX0_sum 29 = .ok (.iload_n 1, 1) := by decide +kernel
theorem dX0_sum_30 : decode cX0_sum 30 = .ok (.ireturn, 1) := by decide +kernel
theorem dX0_step_0 : decode cX0_step 0 = .ok (.aload_n 0, 1) := by decide +kernel
theorem dX0_step_1 : decode cX0_step 1 = .ok (.getfield 17, 3) := by decide +kernel
theorem dX0_step_4 : decode cX0_step 4 = .ok (.iconst 1, 1) := by decide +kernel
theorem dX0_step_5 : decode cX0_step 5 = .ok (.invokestatic 53, 3) := by decide +kernel
theorem dX0_step_8 : decode cX0_step 8 = .ok (.ifCond .ne 8, 3) := by decide +kernel
theorem dX0_step_11 : decode cX0_step 11 = .ok (.aload_n 0, 1) := by decide +kernel
theorem dX0_step_12 : decode cX0_step 12 = .ok (.invokevirtual 74, 3) := by decide +kernel
theorem dX0_step_15 : decode cX0_step 15 = .ok (.return_, 1) := by decide +kernel
theorem dX0_step_16 : decode cX0_step 16 = .ok (.aload_n 0, 1) := by decide +kernel
theorem dX0_step_17 : decode cX0_step 17 = .ok (.aload_n 0, 1) := by decide +kernel
theorem dX0_step_18 : decode cX0_step 18 = .ok (.getfield 17, 3) := by decide +kernel
theorem dX0_step_21 : decode cX0_step 21 = .ok (.invokevirtual 77, 3) := by decide +kernel
theorem dX0_step_24 : decode cX0_step 24 = .ok (.istore_n 1, 1) := by decide +kernel
theorem dX0_step_25 : decode cX0_step 25 = .ok (.iload_n 1, 1) := by decide +kernel
theorem dX0_step_26 : decode cX0_step 26 = .ok (.lookupswitch 344 #[(0, 178), (16, 227), (19, 255), (21, 234), (54, 241), (87, 213), (89, 200), (95, 220), (96, 192), (100, 192), (126, 192), (128, 192), (132, 262), (153, 297), (155, 278), (159, 316), (167, 269), (172, 330), (182, 323), (196, 248), (255, 337)], 178) := by decide +kernel
theorem dX0_step_204 : decode cX0_step 204 = .ok (.aload_n 0, 1) := by decide +kernel
theorem dX0_step_205 : decode cX0_step 205 = .ok (.aload_n 0, 1) := by decide +kernel
theorem dX0_step_206 : decode cX0_step 206 = .ok (.getfield 17, 3) := by decide +kernel
theorem dX0_step_209 : decode cX0_step 209 = .ok (.iconst 1, 1) := by decide +kernel
theorem dX0_step_210 : decode cX0_step 210 = .ok (.iadd, 1) := by decide +kernel
theorem dX0_step_211 : decode cX0_step 211 = .ok (.iconst 2, 1) := by decide +kernel
theorem dX0_step_212 : decode cX0_step 212 = .ok (.invokevirtual 81, 3) := by decide +kernel
theorem dX0_step_215 : decode cX0_step 215 = .ok (.goto 159, 3) := by decide +kernel
theorem dX0_step_218 : decode cX0_step 218 = .ok (.aload_n 0, 1) := by decide +kernel
theorem dX0_step_219 : decode cX0_step 219 = .ok (.iload_n 1, 1) := by decide +kernel
theorem dX0_step_220 : decode cX0_step 220 = .ok (.invokevirtual 85, 3) := by decide +kernel
theorem dX0_step_223 : decode cX0_step 223 = .ok (.goto 151, 3) := by decide +kernel
theorem dX0_step_226 : decode cX0_step 226 = .ok (.aload_n 0, 1) := by decide +kernel
theorem dX0_step_227 : decode cX0_step 227 = .ok (.aload_n 0, 1) := by decide +kernel
theorem dX0_step_228 : decode cX0_step 228 = .ok (.getfield 30, 3) := by decide +kernel
theorem dX0_step_231 : decode cX0_step 231 = .ok (.iconst 1, 1) := by decide +kernel
theorem dX0_step_232 : decode cX0_step 232 = .ok (.iconst 3, 1) := by decide +kernel
theorem dX0_step_233 : decode cX0_step 233 = .ok (.invokevirtual 89, 3) := by decide +kernel
theorem dX0_step_236 : decode cX0_step 236 = .ok (.goto 138, 3) := by decide +kernel
theorem dX0_step_239 : decode cX0_step 239 = .ok (.aload_n 0, 1) := by decide +kernel
theorem dX0_step_240 : decode cX0_step 240 = .ok (.invokevirtual 93, 3) := by decide +kernel
theorem dX0_step_243 : decode cX0_step 243 = .ok (.goto 131, 3) := by decide +kernel
theorem dX0_step_246 : decode cX0_step 246 = .ok (.aload_n 0, 1) := by decide +kernel
theorem dX0_step_247 : decode cX0_step 247 = .ok (.invokevirtual 96, 3) := by decide +kernel
theorem dX0_step_250 : decode cX0_step 250 = .ok (.goto 124, 3) := by decide +kernel
theorem dX0_step_253 : decode cX0_step 253 = .ok (.aload_n 0, 1) := by decide +kernel
theorem dX0_step_254 : decode cX0_step 254 = .ok (.invokevirtual 99, 3) := by decide +kernel
theorem dX0_step_257 : decode cX0_step 257 = .ok (.goto 117, 3) := by decide +kernel
theorem dX0_step_260 : decode cX0_step 260 = .ok (.aload_n 0, 1) := by decide +kernel
theorem dX0_step_261 : decode cX0_step 261 = .ok (.invokevirtual 102, 3) := by decide +kernel
theorem dX0_step_264 : decode cX0_step 264 = .ok (.goto 110, 3) := by decide +kernel
theorem dX0_step_267 : decode cX0_step 267 = .ok (.aload_n 0, 1) := by decide +kernel
theorem dX0_step_268 : decode cX0_step 268 = .ok (.invokevirtual 105, 3) := by decide +kernel
theorem dX0_step_271 : decode cX0_step 271 = .ok (.goto 103, 3) := by decide +kernel
theorem dX0_step_274 : decode cX0_step 274 = .ok (.aload_n 0, 1) := by decide +kernel
theorem dX0_step_275 : decode cX0_step 275 = .ok (.invokevirtual 108, 3) := by decide +kernel
theorem dX0_step_278 : decode cX0_step 278 = .ok (.goto 96, 3) := by decide +kernel
theorem dX0_step_281 : decode cX0_step 281 = .ok (.aload_n 0, 1) := by decide +kernel
theorem dX0_step_282 : decode cX0_step 282 = .ok (.invokevirtual 111, 3) := by decide +kernel
theorem dX0_step_285 : decode cX0_step 285 = .ok (.goto 89, 3) := by decide +kernel
theorem dX0_step_288 : decode cX0_step 288 = .ok (.aload_n 0, 1) := by decide +kernel
theorem dX0_step_289 : decode cX0_step 289 = .ok (.invokevirtual 114, 3) := by decide +kernel
theorem dX0_step_292 : decode cX0_step 292 = .ok (.goto 82, 3) := by decide +kernel
theorem dX0_step_295 : decode cX0_step 295 = .ok (.aload_n 0, 1) := by decide +kernel
theorem dX0_step_296 : decode cX0_step 296 = .ok (.bipush 7, 2) := by decide +kernel
theorem dX0_step_298 : decode cX0_step 298 = .ok (.invokevirtual 117, 3) := by decide +kernel
theorem dX0_step_301 : decode cX0_step 301 = .ok (.goto 73, 3) := by decide +kernel
theorem dX0_step_304 : decode cX0_step 304 = .ok (.aload_n 0, 1) := by decide +kernel
theorem dX0_step_305 : decode cX0_step 305 = .ok (.aload_n 0, 1) := by decide +kernel
theorem dX0_step_306 : decode cX0_step 306 = .ok (.getfield 30, 3) := by decide +kernel
theorem dX0_step_309 : decode cX0_step 309 = .ok (.ifCond .ge 7, 3) := by decide +kernel
theorem dX0_step_312 : decode cX0_step 312 = .ok (.iconst 1, 1) := by decide +kernel
theorem dX0_step_313 : decode cX0_step 313 = .ok (.goto 4, 3) := by decide +kernel
theorem dX0_step_316 : decode cX0_step 316 = .ok (.iconst 0, 1) := by decide +kernel
theorem dX0_step_317 : decode cX0_step 317 = .ok (.invokevirtual 120, 3) := by decide +kernel
theorem dX0_step_320 : decode cX0_step 320 = .ok (.goto 54, 3) := by decide +kernel
theorem dX0_step_323 : decode cX0_step 323 = .ok (.aload_n 0, 1) := by decide +kernel
theorem dX0_step_324 : decode cX0_step 324 = .ok (.aload_n 0, 1) := by decide +kernel
theorem dX0_step_325 : decode cX0_step 325 = .ok (.getfield 30, 3) := by decide +kernel
theorem dX0_step_328 : decode cX0_step 328 = .ok (.ifCond .ne 7, 3) := by decide +kernel
theorem dX0_step_331 : decode cX0_step 331 = .ok (.iconst 1, 1) := by decide +kernel
theorem dX0_step_332 : decode cX0_step 332 = .ok (.goto 4, 3) := by decide +kernel
theorem dX0_step_335 : decode cX0_step 335 = .ok (.iconst 0, 1) := by decide +kernel
theorem dX0_step_336 : decode cX0_step 336 = .ok (.invokevirtual 120, 3) := by decide +kernel
theorem dX0_step_339 : decode cX0_step 339 = .ok (.goto 35, 3) := by decide +kernel
theorem dX0_step_342 : decode cX0_step 342 = .ok (.aload_n 0, 1) := by decide +kernel
theorem dX0_step_343 : decode cX0_step 343 = .ok (.invokevirtual 124, 3) := by decide +kernel
theorem dX0_step_346 : decode cX0_step 346 = .ok (.goto 28, 3) := by decide +kernel
theorem dX0_step_349 : decode cX0_step 349 = .ok (.aload_n 0, 1) := by decide +kernel
theorem dX0_step_350 : decode cX0_step 350 = .ok (.invokevirtual 127, 3) := by decide +kernel
theorem dX0_step_353 : decode cX0_step 353 = .ok (.goto 21, 3) := by decide +kernel
theorem dX0_step_356 : decode cX0_step 356 = .ok (.aload_n 0, 1) := by decide +kernel
theorem dX0_step_357 : decode cX0_step 357 = .ok (.invokevirtual 130, 3) := by decide +kernel
theorem dX0_step_360 : decode cX0_step 360 = .ok (.goto 14, 3) := by decide +kernel
theorem dX0_step_363 : decode cX0_step 363 = .ok (.aload_n 0, 1) := by decide +kernel
theorem dX0_step_364 : decode cX0_step 364 = .ok (.invokevirtual 133, 3) := by decide +kernel
theorem dX0_step_367 : decode cX0_step 367 = .ok (.goto 7, 3) := by decide +kernel
theorem dX0_step_370 : decode cX0_step 370 = .ok (.aload_n 0, 1) := by decide +kernel
theorem dX0_step_371 : decode cX0_step 371 = .ok (.invokevirtual 136, 3) := by decide +kernel
theorem dX0_step_374 : decode cX0_step 374 = .ok (.return_, 1) := by decide +kernel
theorem dX0_combine_0 : decode cX0_combine 0 = .ok (.aload_n 0, 1) := by decide +kernel
theorem dX0_combine_1 : decode cX0_combine 1 = .ok (.getfield 21, 3) := by decide +kernel
theorem dX0_combine_4 : decode cX0_combine 4 = .ok (.iconst 1, 1) := by decide +kernel
theorem dX0_combine_5 : decode cX0_combine 5 = .ok (.isub, 1) := by decide +kernel
theorem dX0_combine_6 : decode cX0_combine 6 = .ok (.istore_n 2, 1) := by decide +kernel
theorem dX0_combine_7 : decode cX0_combine 7 = .ok (.iload_n 2, 1) := by decide +kernel
theorem dX0_combine_8 : decode cX0_combine 8 = .ok (.invokestatic 42, 3) := by decide +kernel
theorem dX0_combine_11 : decode cX0_combine 11 = .ok (.ifCond .ne 8, 3) := by decide +kernel
theorem dX0_combine_14 : decode cX0_combine 14 = .ok (.aload_n 0, 1) := by decide +kernel
theorem dX0_combine_15 : decode cX0_combine 15 = .ok (.invokevirtual 74, 3) := by decide +kernel
theorem dX0_combine_18 : decode cX0_combine 18 = .ok (.return_, 1) := by decide +kernel
theorem dX0_combine_19 : decode cX0_combine 19 = .ok (.aload_n 0, 1) := by decide +kernel
theorem dX0_combine_20 : decode cX0_combine 20 = .ok (.iload_n 1, 1) := by decide +kernel
theorem dX0_combine_21 : decode cX0_combine 21 = .ok (.aload_n 0, 1) := by decide +kernel
theorem dX0_combine_22 : decode cX0_combine 22 = .ok (.getfield 9, 3) := by decide +kernel
theorem dX0_combine_25 : decode cX0_combine 25 = .ok (.iload_n 2, 1) := by decide +kernel
theorem dX0_combine_26 : decode cX0_combine 26 = .ok (.iaload, 1) := by decide +kernel
theorem dX0_combine_27 : decode cX0_combine 27 = .ok (.aload_n 0, 1) := by decide +kernel
theorem dX0_combine_28 : decode cX0_combine 28 = .ok (.getfield 30, 3) := by decide +kernel
theorem dX0_combine_31 : decode cX0_combine 31 = .ok (.invokestatic 139, 3) := by decide +kernel
theorem dX0_combine_34 : decode cX0_combine 34 = .ok (.putfield 30, 3) := by decide +kernel
theorem dX0_combine_37 : decode cX0_combine 37 = .ok (.aload_n 0, 1) := by decide +kernel
theorem dX0_combine_38 : decode cX0_combine 38 = .ok (.getfield 9, 3) := by decide +kernel
theorem dX0_combine_41 : decode cX0_combine 41 = .ok (.iload_n 2, 1) := by decide +kernel
theorem dX0_combine_42 : decode cX0_combine 42 = .ok (.aload_n 0, 1) := by decide +kernel
theorem dX0_combine_43 : decode cX0_combine 43 = .ok (.getfield 30, 3) := by decide +kernel
theorem dX0_combine_46 : decode cX0_combine 46 = .ok (.iastore, 1) := by decide +kernel
theorem dX0_combine_47 : decode cX0_combine 47 = .ok (.aload_n 0, 1) := by decide +kernel
theorem dX0_combine_48 : decode cX0_combine 48 = .ok (.iload_n 2, 1) := by decide +kernel
theorem dX0_combine_49 : decode cX0_combine 49 = .ok (.putfield 21, 3) := by decide +kernel
theorem dX0_combine_52 : decode cX0_combine 52 = .ok (.aload_n 0, 1) := by decide +kernel
theorem dX0_combine_53 : decode cX0_combine 53 = .ok (.aload_n 0, 1) := by decide +kernel
theorem dX0_combine_54 : decode cX0_combine 54 = .ok (.getfield 17, 3) := by decide +kernel
theorem dX0_combine_57 : decode cX0_combine 57 = .ok (.iconst 1, 1) := by decide +kernel
theorem dX0_combine_58 : decode cX0_combine 58 = .ok (.iadd, 1) := by decide +kernel
theorem dX0_combine_59 : decode cX0_combine 59 = .ok (.iconst 4, 1) := by decide +kernel
theorem dX0_combine_60 : decode cX0_combine 60 = .ok (.invokevirtual 81, 3) := by decide +kernel
theorem dX0_combine_63 : decode cX0_combine 63 = .ok (.return_, 1) := by decide +kernel
theorem dX0_combined_0 : decode cX0_combined 0 = .ok (.iload_n 0, 1) := by decide +kernel
theorem dX0_combined_1 : decode cX0_combined 1 = .ok (.lookupswitch 47 #[(96, 35), (100, 39), (126, 43)], 35) := by decide +kernel
theorem dX0_combined_36 : decode cX0_combined 36 = .ok (.iload_n 1, 1) := by decide +kernel
theorem dX0_combined_37 : decode cX0_combined 37 = .ok (.iload_n 2, 1) := by decide +kernel
theorem dX0_combined_38 : decode cX0_combined 38 = .ok (.iadd, 1) := by decide +kernel
theorem dX0_combined_39 : decode cX0_combined 39 = .ok (.ireturn, 1) := by decide +kernel
theorem dX0_combined_40 : decode cX0_combined 40 = .ok (.iload_n 1, 1) := by decide +kernel
theorem dX0_combined_41 : decode cX0_combined 41 = .ok (.iload_n 2, 1) := by decide +kernel
theorem dX0_combined_42 : decode cX0_combined 42 = .ok (.isub, 1) := by decide +kernel
theorem dX0_combined_43 : decode cX0_combined 43 = .ok (.ireturn, 1) := by decide +kernel
theorem dX0_combined_44 : decode cX0_combined 44 = .ok (.iload_n 1, 1) := by decide +kernel
theorem dX0_combined_45 : decode cX0_combined 45 = .ok (.iload_n 2, 1) := by decide +kernel
theorem dX0_combined_46 : decode cX0_combined 46 = .ok (.iand, 1) := by decide +kernel
theorem dX0_combined_47 : decode cX0_combined 47 = .ok (.ireturn, 1) := by decide +kernel
theorem dX0_combined_48 : decode cX0_combined 48 = .ok (.iload_n 1, 1) := by decide +kernel
theorem dX0_combined_49 : decode cX0_combined 49 = .ok (.iload_n 2, 1) := by decide +kernel
theorem dX0_combined_50 : decode cX0_combined 50 = .ok (.ior, 1) := by decide +kernel
theorem dX0_combined_51 : decode cX0_combined 51 = .ok (.ireturn, 1) := by decide +kernel
theorem dX0_push_0 : decode cX0_push 0 = .ok (.aload_n 0, 1) := by decide +kernel
theorem dX0_push_1 : decode cX0_push 1 = .ok (.getfield 21, 3) := by decide +kernel
theorem dX0_push_4 : decode cX0_push 4 = .ok (.iconst 1, 1) := by decide +kernel
theorem dX0_push_5 : decode cX0_push 5 = .ok (.iadd, 1) := by decide +kernel
theorem dX0_push_6 : decode cX0_push 6 = .ok (.istore 4, 2) := by decide +kernel
theorem dX0_push_8 : decode cX0_push 8 = .ok (.iload 4, 2) := by decide +kernel
theorem dX0_push_10 : decode cX0_push 10 = .ok (.invokestatic 42, 3) := by decide +kernel
theorem dX0_push_13 : decode cX0_push 13 = .ok (.ifCond .ne 8, 3) := by decide +kernel
theorem dX0_push_16 : decode cX0_push 16 = .ok (.aload_n 0, 1) := by decide +kernel
theorem dX0_push_17 : decode cX0_push 17 = .ok (.invokevirtual 74, 3) := by decide +kernel
theorem dX0_push_20 : decode cX0_push 20 = .ok (.return_, 1) := by decide +kernel
theorem dX0_push_21 : decode cX0_push 21 = .ok (.aload_n 0, 1) := by decide +kernel
theorem dX0_push_22 : decode cX0_push 22 = .ok (.iload 4, 2) := by decide +kernel
theorem dX0_push_24 : decode cX0_push 24 = .ok (.putfield 21, 3) := by decide +kernel
theorem dX0_push_27 : decode cX0_push 27 = .ok (.aload_n 0, 1) := by decide +kernel
theorem dX0_push_28 : decode cX0_push 28 = .ok (.iload_n 1, 1) := by decide +kernel
theorem dX0_push_29 : decode cX0_push 29 = .ok (.putfield 30, 3) := by decide +kernel
theorem dX0_push_32 : decode cX0_push 32 = .ok (.aload_n 0, 1) := by decide +kernel
theorem dX0_push_33 : decode cX0_push 33 = .ok (.getfield 9, 3) := by decide +kernel
theorem dX0_push_36 : decode cX0_push 36 = .ok (.iload 4, 2) := by decide +kernel
theorem dX0_push_38 : decode cX0_push 38 = .ok (.iload_n 1, 1) := by decide +kernel
theorem dX0_push_39 : decode cX0_push 39 = .ok (.iastore, 1) := by decide +kernel
theorem dX0_push_40 : decode cX0_push 40 = .ok (.aload_n 0, 1) := by decide +kernel
theorem dX0_push_41 : decode cX0_push 41 = .ok (.aload_n 0, 1) := by decide +kernel
theorem dX0_push_42 : decode cX0_push 42 = .ok (.getfield 17, 3) := by decide +kernel
theorem dX0_push_45 : decode cX0_push 45 = .ok (.iload_n 2, 1) := by decide +kernel
theorem dX0_push_46 : decode cX0_push 46 = .ok (.iadd, 1) := by decide +kernel
theorem dX0_push_47 : decode cX0_push 47 = .ok (.iload_n 3, 1) := by decide +kernel
theorem dX0_push_48 : decode cX0_push 48 = .ok (.invokevirtual 81, 3) := by decide +kernel
theorem dX0_push_51 : decode cX0_push 51 = .ok (.return_, 1) := by decide +kernel
theorem dX0_pop_0 : decode cX0_pop 0 = .ok (.aload_n 0, 1) := by decide +kernel
theorem dX0_pop_1 : decode cX0_pop 1 = .ok (.getfield 21, 3) := by decide +kernel
theorem dX0_pop_4 : decode cX0_pop 4 = .ok (.iconst 1, 1) := by decide +kernel
theorem dX0_pop_5 : decode cX0_pop 5 = .ok (.isub, 1) := by decide +kernel
theorem dX0_pop_6 : decode cX0_pop 6 = .ok (.istore_n 1, 1) := by decide +kernel
theorem dX0_pop_7 : decode cX0_pop 7 = .ok (.iload_n 1, 1) := by decide +kernel
theorem dX0_pop_8 : decode cX0_pop 8 = .ok (.invokestatic 42, 3) := by decide +kernel
theorem dX0_pop_11 : decode cX0_pop 11 = .ok (.ifCond .ne 8, 3) := by decide +kernel
theorem dX0_pop_14 : decode cX0_pop 14 = .ok (.aload_n 0, 1) := by decide +kernel
theorem dX0_pop_15 : decode cX0_pop 15 = .ok (.invokevirtual 74, 3) := by decide +kernel
theorem dX0_pop_18 : decode cX0_pop 18 = .ok (.return_, 1) := by decide +kernel
theorem dX0_pop_19 : decode cX0_pop 19 = .ok (.aload_n 0, 1) := by decide +kernel
theorem dX0_pop_20 : decode cX0_pop 20 = .ok (.iload_n 1, 1) := by decide +kernel
theorem dX0_pop_21 : decode cX0_pop 21 = .ok (.putfield 21, 3) := by decide +kernel
theorem dX0_pop_24 : decode cX0_pop 24 = .ok (.aload_n 0, 1) := by decide +kernel
theorem dX0_pop_25 : decode cX0_pop 25 = .ok (.aload_n 0, 1) := by decide +kernel
theorem dX0_pop_26 : decode cX0_pop 26 = .ok (.getfield 9, 3) := by decide +kernel
theorem dX0_pop_29 : decode cX0_pop 29 = .ok (.iload_n 1, 1) := by decide +kernel
theorem dX0_pop_30 : decode cX0_pop 30 = .ok (.iaload, 1) := by decide +kernel
theorem dX0_pop_31 : decode cX0_pop 31 = .ok (.putfield 30, 3) := by decide +kernel
theorem dX0_pop_34 : decode cX0_pop 34 = .ok (.aload_n 0, 1) := by decide +kernel
theorem dX0_pop_35 : decode cX0_pop 35 = .ok (.aload_n 0, 1) := by decide +kernel
theorem dX0_pop_36 : decode cX0_pop 36 = .ok (.getfield 17, 3) := by decide +kernel
theorem dX0_pop_39 : decode cX0_pop 39 = .ok (.iconst 1, 1) := by decide +kernel
theorem dX0_pop_40 : decode cX0_pop 40 = .ok (.iadd, 1) := by decide +kernel
theorem dX0_pop_41 : decode cX0_pop 41 = .ok (.iconst 4, 1) := by decide +kernel
theorem dX0_pop_42 : decode cX0_pop 42 = .ok (.invokevirtual 81, 3) := by decide +kernel
theorem dX0_pop_45 : decode cX0_pop 45 = .ok (.return_, 1) := by decide +kernel
theorem dX0_swap_0 : decode cX0_swap 0 = .ok (.aload_n 0, 1) := by decide +kernel
theorem dX0_swap_1 : decode cX0_swap 1 = .ok (.getfield 21, 3) := by decide +kernel
theorem dX0_swap_4 : decode cX0_swap 4 = .ok (.iconst 1, 1) := by decide +kernel
theorem dX0_swap_5 : decode cX0_swap 5 = .ok (.isub, 1) := by decide +kernel
theorem dX0_swap_6 : decode cX0_swap 6 = .ok (.istore_n 1, 1) := by decide +kernel
theorem dX0_swap_7 : decode cX0_swap 7 = .ok (.aload_n 0, 1) := by decide +kernel
theorem dX0_swap_8 : decode cX0_swap 8 = .ok (.getfield 21, 3) := by decide +kernel
theorem dX0_swap_11 : decode cX0_swap 11 = .ok (.invokestatic 42, 3) := by decide +kernel
theorem dX0_swap_14 : decode cX0_swap 14 = .ok (.ifCond .eq 10, 3) := by decide +kernel
theorem dX0_swap_17 : decode cX0_swap 17 = .ok (.iload_n 1, 1) := by decide +kernel
theorem dX0_swap_18 : decode cX0_swap 18 = .ok (.invokestatic 42, 3) := by decide +kernel
theorem dX0_swap_21 : decode cX0_swap 21 = .ok (.ifCond .ne 8, 3) := by decide +kernel
theorem dX0_swap_24 : decode cX0_swap 24 = .ok (.aload_n 0, 1) := by decide +kernel
theorem dX0_swap_25 : decode cX0_swap 25 = .ok (.invokevirtual 74, 3) := by decide +kernel
theorem dX0_swap_28 : decode cX0_swap 28 = .ok (.return_, 1) := by decide +kernel
theorem dX0_swap_29 : decode cX0_swap 29 = .ok (.aload_n 0, 1) := by decide +kernel
theorem dX0_swap_30 : decode cX0_swap 30 = .ok (.getfield 9, 3) := by decide +kernel
theorem dX0_swap_33 : decode cX0_swap 33 = .ok (.iload_n 1, 1) := by decide +kernel
theorem dX0_swap_34 : decode cX0_swap 34 = .ok (.iaload, 1) := by decide +kernel
theorem dX0_swap_35 : decode cX0_swap 35 = .ok (.istore_n 2, 1) := by decide +kernel
theorem dX0_swap_36 : decode cX0_swap 36 = .ok (.aload_n 0, 1) := by decide +kernel
theorem dX0_swap_37 : decode cX0_swap 37 = .ok (.getfield 9, 3) := by decide +kernel
theorem dX0_swap_40 : decode cX0_swap 40 = .ok (.aload_n 0, 1) := by decide +kernel
theorem dX0_swap_41 : decode cX0_swap 41 = .ok (.getfield 21, 3) := by decide +kernel
theorem dX0_swap_44 : decode cX0_swap 44 = .ok (.iload_n 2, 1) := by decide +kernel
theorem dX0_swap_45 : decode cX0_swap 45 = .ok (.iastore, 1) := by decide +kernel
theorem dX0_swap_46 : decode cX0_swap 46 = .ok (.aload_n 0, 1) := by decide +kernel
theorem dX0_swap_47 : decode cX0_swap 47 = .ok (.getfield 9, 3) := by decide +kernel
theorem dX0_swap_50 : decode cX0_swap 50 = .ok (.iload_n 1, 1) := by decide +kernel
theorem dX0_swap_51 : decode cX0_swap 51 = .ok (.aload_n 0, 1) := by decide +kernel
theorem dX0_swap_52 : decode cX0_swap 52 = .ok (.getfield 30, 3) := by decide +kernel
theorem dX0_swap_55 : decode cX0_swap 55 = .ok (.iastore, 1) := by decide +kernel
theorem dX0_swap_56 : decode cX0_swap 56 = .ok (.aload_n 0, 1) := by decide +kernel
theorem dX0_swap_57 : decode cX0_swap 57 = .ok (.iload_n 2, 1) := by decide +kernel
theorem dX0_swap_58 : decode cX0_swap 58 = .ok (.putfield 30, 3) := by decide +kernel
theorem dX0_swap_61 : decode cX0_swap 61 = .ok (.aload_n 0, 1) := by decide +kernel
theorem dX0_swap_62 : decode cX0_swap 62 = .ok (.aload_n 0, 1) := by decide +kernel
theorem dX0_swap_63 : decode cX0_swap 63 = .ok (.getfield 17, 3) := by decide +kernel
theorem dX0_swap_66 : decode cX0_swap 66 = .ok (.iconst 1, 1) := by decide +kernel
theorem dX0_swap_67 : decode cX0_swap 67 = .ok (.iadd, 1) := by decide +kernel
theorem dX0_swap_68 : decode cX0_swap 68 = .ok (.bipush 7, 2) := by decide +kernel
theorem dX0_swap_70 : decode cX0_swap 70 = .ok (.invokevirtual 81, 3) := by decide +kernel
theorem dX0_swap_73 : decode cX0_swap 73 = .ok (.return_, 1) := by decide +kernel
theorem dX0_pushByte_0 : decode cX0_pushByte 0 = .ok (.aload_n 0, 1) := by decide +kernel
theorem dX0_pushByte_1 : decode cX0_pushByte 1 = .ok (.getfield 17, 3) := by decide +kernel
theorem dX0_pushByte_4 : decode cX0_pushByte 4 = .ok (.iconst 2, 1) := by decide +kernel
theorem dX0_pushByte_5 : decode cX0_pushByte 5 = .ok (.invokestatic 53, 3) := by decide +kernel
theorem dX0_pushByte_8 : decode cX0_pushByte 8 = .ok (.ifCond .ne 8, 3) := by decide +kernel
theorem dX0_pushByte_11 : decode cX0_pushByte 11 = .ok (.aload_n 0, 1) := by decide +kernel
theorem dX0_pushByte_12 : decode cX0_pushByte 12 = .ok (.invokevirtual 74, 3) := by decide +kernel
theorem dX0_pushByte_15 : decode cX0_pushByte 15 = .ok (.return_, 1) := by decide +kernel
theorem dX0_pushByte_16 : decode cX0_pushByte 16 = .ok (.aload_n 0, 1) := by decide +kernel
theorem dX0_pushByte_17 : decode cX0_pushByte 17 = .ok (.aload_n 0, 1) := by decide +kernel
theorem dX0_pushByte_18 : decode cX0_pushByte 18 = .ok (.getfield 13, 3) := by decide +kernel
theorem dX0_pushByte_21 : decode cX0_pushByte 21 = .ok (.aload_n 0, 1) := by decide +kernel
theorem dX0_pushByte_22 : decode cX0_pushByte 22 = .ok (.getfield 17, 3) := by decide +kernel
theorem dX0_pushByte_25 : decode cX0_pushByte 25 = .ok (.iconst 1, 1) := by decide +kernel
theorem dX0_pushByte_26 : decode cX0_pushByte 26 = .ok (.iadd, 1) := by decide +kernel
theorem dX0_pushByte_27 : decode cX0_pushByte 27 = .ok (.baload, 1) := by decide +kernel
theorem dX0_pushByte_28 : decode cX0_pushByte 28 = .ok (.iconst 2, 1) := by decide +kernel
theorem dX0_pushByte_29 : decode cX0_pushByte 29 = .ok (.iconst 4, 1) := by decide +kernel
theorem dX0_pushByte_30 : decode cX0_pushByte 30 = .ok (.invokevirtual 89, 3) := by decide +kernel
theorem dX0_pushByte_33 : decode cX0_pushByte 33 = .ok (.return_, 1) := by decide +kernel
theorem dX0_loadNarrow_0 : decode cX0_loadNarrow 0 = .ok (.aload_n 0, 1) := by decide +kernel
theorem dX0_loadNarrow_1 : decode cX0_loadNarrow 1 = .ok (.getfield 17, 3) := by decide +kernel
theorem dX0_loadNarrow_4 : decode cX0_loadNarrow 4 = .ok (.iconst 2, 1) := by decide +kernel
theorem dX0_loadNarrow_5 : decode cX0_loadNarrow 5 = .ok (.invokestatic 53, 3) := by decide +kernel
theorem dX0_loadNarrow_8 : decode cX0_loadNarrow 8 = .ok (.ifCond .ne 8, 3) := by decide +kernel
theorem dX0_loadNarrow_11 : decode cX0_loadNarrow 11 = .ok (.aload_n 0, 1) := by decide +kernel
theorem dX0_loadNarrow_12 : decode cX0_loadNarrow 12 = .ok (.invokevirtual 74, 3) := by decide +kernel
theorem dX0_loadNarrow_15 : decode cX0_loadNarrow 15 = .ok (.return_, 1) := by decide +kernel
theorem dX0_loadNarrow_16 : decode cX0_loadNarrow 16 = .ok (.aload_n 0, 1) := by decide +kernel
theorem dX0_loadNarrow_17 : decode cX0_loadNarrow 17 = .ok (.aload_n 0, 1) := by decide +kernel
theorem dX0_loadNarrow_18 : decode cX0_loadNarrow 18 = .ok (.getfield 24, 3) := by decide +kernel
theorem dX0_loadNarrow_21 : decode cX0_loadNarrow 21 = .ok (.aload_n 0, 1) := by decide +kernel
theorem dX0_loadNarrow_22 : decode cX0_loadNarrow 22 = .ok (.aload_n 0, 1) := by decide +kernel
theorem dX0_loadNarrow_23 : decode cX0_loadNarrow 23 = .ok (.getfield 17, 3) := by decide +kernel
theorem dX0_loadNarrow_26 : decode cX0_loadNarrow 26 = .ok (.iconst 1, 1) := by decide +kernel
theorem dX0_loadNarrow_27 : decode cX0_loadNarrow 27 = .ok (.iadd, 1) := by decide +kernel
theorem dX0_loadNarrow_28 : decode cX0_loadNarrow 28 = .ok (.invokevirtual 77, 3) := by decide +kernel
theorem dX0_loadNarrow_31 : decode cX0_loadNarrow 31 = .ok (.iadd, 1) := by decide +kernel
theorem dX0_loadNarrow_32 : decode cX0_loadNarrow 32 = .ok (.iconst 2, 1) := by decide +kernel
theorem dX0_loadNarrow_33 : decode cX0_loadNarrow 33 = .ok (.bipush 6, 2) := by decide +kernel
theorem dX0_loadNarrow_35 : decode cX0_loadNarrow 35 = .ok (.invokevirtual 143, 3) := by decide +kernel
theorem dX0_loadNarrow_38 : decode cX0_loadNarrow 38 = .ok (.return_, 1) := by decide +kernel
theorem dX0_storeNarrow_0 : decode cX0_storeNarrow 0 = .ok (.aload_n 0, 1) := by decide +kernel
theorem dX0_storeNarrow_1 : decode cX0_storeNarrow 1 = .ok (.getfield 17, 3) := by decide +kernel
theorem dX0_storeNarrow_4 : decode cX0_storeNarrow 4 = .ok (.iconst 2, 1) := by decide +kernel
theorem dX0_storeNarrow_5 : decode cX0_storeNarrow 5 = .ok (.invokestatic 53, 3) := by decide +kernel
theorem dX0_storeNarrow_8 : decode cX0_storeNarrow 8 = .ok (.ifCond .ne 8, 3) := by decide +kernel
theorem dX0_storeNarrow_11 : decode cX0_storeNarrow 11 = .ok (.aload_n 0, 1) := by decide +kernel
theorem dX0_storeNarrow_12 : decode cX0_storeNarrow 12 = .ok (.invokevirtual 74, 3) := by decide +kernel
theorem dX0_storeNarrow_15 : decode cX0_storeNarrow 15 = .ok (.return_, 1) := by decide +kernel
theorem dX0_storeNarrow_16 : decode cX0_storeNarrow 16 = .ok (.aload_n 0, 1) := by decide +kernel
theorem dX0_storeNarrow_17 : decode cX0_storeNarrow 17 = .ok (.aload_n 0, 1) := by decide +kernel
theorem dX0_storeNarrow_18 : decode cX0_storeNarrow 18 = .ok (.getfield 24, 3) := by decide +kernel
theorem dX0_storeNarrow_21 : decode cX0_storeNarrow 21 = .ok (.aload_n 0, 1) := by decide +kernel
theorem dX0_storeNarrow_22 : decode cX0_storeNarrow 22 = .ok (.aload_n 0, 1) := by decide +kernel
theorem dX0_storeNarrow_23 : decode cX0_storeNarrow 23 = .ok (.getfield 17, 3) := by decide +kernel
theorem dX0_storeNarrow_26 : decode cX0_storeNarrow 26 = .ok (.iconst 1, 1) := by decide +kernel
theorem dX0_storeNarrow_27 : decode cX0_storeNarrow 27 = .ok (.iadd, 1) := by decide +kernel
end
section
theorem dX0_storeNarrow_28 : decode cX0_storeNarrow 28 = .ok (.invokevirtual 77, 3) := by decide +kernel
theorem dX0_storeNarrow_31 : decode cX0_storeNarrow 31 = .ok (.iadd, 1) := by decide +kernel
theorem dX0_storeNarrow_32 : decode cX0_storeNarrow 32 = .ok (.iconst 2, 1) := by decide +kernel
theorem dX0_storeNarrow_33 : decode cX0_storeNarrow 33 = .ok (.bipush 7, 2) := by decide +kernel
theorem dX0_storeNarrow_35 : decode cX0_storeNarrow 35 = .ok (.invokevirtual 146, 3) := by decide +kernel
theorem dX0_storeNarrow_38 : decode cX0_storeNarrow 38 = .ok (.return_, 1) := by decide +kernel
theorem dX0_wide_0 : decode cX0_wide 0 = .ok (.aload_n 0, 1) := by decide +kernel
theorem dX0_wide_1 : decode cX0_wide 1 = .ok (.getfield 17, 3) := by decide +kernel
theorem dX0_wide_4 : decode cX0_wide 4 = .ok (.iconst 2, 1) := by decide +kernel
theorem dX0_wide_5 : decode cX0_wide 5 = .ok (.invokestatic 53, 3) := by decide +kernel
theorem dX0_wide_8 : decode cX0_wide 8 = .ok (.ifCond .ne 8, 3) := by decide +kernel
theorem dX0_wide_11 : decode cX0_wide 11 = .ok (.aload_n 0, 1) := by decide +kernel
theorem dX0_wide_12 : decode cX0_wide 12 = .ok (.invokevirtual 74, 3) := by decide +kernel
theorem dX0_wide_15 : decode cX0_wide 15 = .ok (.return_, 1) := by decide +kernel
theorem dX0_wide_16 : decode cX0_wide 16 = .ok (.aload_n 0, 1) := by decide +kernel
theorem dX0_wide_17 : decode cX0_wide 17 = .ok (.aload_n 0, 1) := by decide +kernel
theorem dX0_wide_18 : decode cX0_wide 18 = .ok (.getfield 17, 3) := by decide +kernel
theorem dX0_wide_21 : decode cX0_wide 21 = .ok (.iconst 1, 1) := by decide +kernel
theorem dX0_wide_22 : decode cX0_wide 22 = .ok (.iadd, 1) := by decide +kernel
theorem dX0_wide_23 : decode cX0_wide 23 = .ok (.invokevirtual 77, 3) := by decide +kernel
theorem dX0_wide_26 : decode cX0_wide 26 = .ok (.istore_n 1, 1) := by decide +kernel
theorem dX0_wide_27 : decode cX0_wide 27 = .ok (.iload_n 1, 1) := by decide +kernel
theorem dX0_wide_28 : decode cX0_wide 28 = .ok (.bipush 21, 2) := by decide +kernel
theorem dX0_wide_30 : decode cX0_wide 30 = .ok (.if_icmp .eq 14, 3) := by decide +kernel
theorem dX0_wide_33 : decode cX0_wide 33 = .ok (.iload_n 1, 1) := by decide +kernel
theorem dX0_wide_34 : decode cX0_wide 34 = .ok (.bipush 54, 2) := by decide +kernel
theorem dX0_wide_36 : decode cX0_wide 36 = .ok (.if_icmp .eq 8, 3) := by decide +kernel
theorem dX0_wide_39 : decode cX0_wide 39 = .ok (.aload_n 0, 1) := by decide +kernel
theorem dX0_wide_40 : decode cX0_wide 40 = .ok (.invokevirtual 136, 3) := by decide +kernel
theorem dX0_wide_43 : decode cX0_wide 43 = .ok (.return_, 1) := by decide +kernel
theorem dX0_wide_44 : decode cX0_wide 44 = .ok (.aload_n 0, 1) := by decide +kernel
theorem dX0_wide_45 : decode cX0_wide 45 = .ok (.getfield 17, 3) := by decide +kernel
theorem dX0_wide_48 : decode cX0_wide 48 = .ok (.iconst 4, 1) := by decide +kernel
theorem dX0_wide_49 : decode cX0_wide 49 = .ok (.invokestatic 53, 3) := by decide +kernel
theorem dX0_wide_52 : decode cX0_wide 52 = .ok (.ifCond .ne 8, 3) := by decide +kernel
theorem dX0_wide_55 : decode cX0_wide 55 = .ok (.aload_n 0, 1) := by decide +kernel
theorem dX0_wide_56 : decode cX0_wide 56 = .ok (.invokevirtual 74, 3) := by decide +kernel
theorem dX0_wide_59 : decode cX0_wide 59 = .ok (.return_, 1) := by decide +kernel
theorem dX0_wide_60 : decode cX0_wide 60 = .ok (.aload_n 0, 1) := by decide +kernel
theorem dX0_wide_61 : decode cX0_wide 61 = .ok (.getfield 24, 3) := by decide +kernel
theorem dX0_wide_64 : decode cX0_wide 64 = .ok (.aload_n 0, 1) := by decide +kernel
theorem dX0_wide_65 : decode cX0_wide 65 = .ok (.aload_n 0, 1) := by decide +kernel
theorem dX0_wide_66 : decode cX0_wide 66 = .ok (.getfield 17, 3) := by decide +kernel
theorem dX0_wide_69 : decode cX0_wide 69 = .ok (.iconst 2, 1) := by decide +kernel
theorem dX0_wide_70 : decode cX0_wide 70 = .ok (.iadd, 1) := by decide +kernel
theorem dX0_wide_71 : decode cX0_wide 71 = .ok (.invokevirtual 149, 3) := by decide +kernel
theorem dX0_wide_74 : decode cX0_wide 74 = .ok (.iadd, 1) := by decide +kernel
theorem dX0_wide_75 : decode cX0_wide 75 = .ok (.istore_n 2, 1) := by decide +kernel
theorem dX0_wide_76 : decode cX0_wide 76 = .ok (.iload_n 1, 1) := by decide +kernel
theorem dX0_wide_77 : decode cX0_wide 77 = .ok (.bipush 21, 2) := by decide +kernel
theorem dX0_wide_79 : decode cX0_wide 79 = .ok (.if_icmp .ne 14, 3) := by decide +kernel
theorem dX0_wide_82 : decode cX0_wide 82 = .ok (.aload_n 0, 1) := by decide +kernel
theorem dX0_wide_83 : decode cX0_wide 83 = .ok (.iload_n 2, 1) := by decide +kernel
theorem dX0_wide_84 : decode cX0_wide 84 = .ok (.iconst 4, 1) := by decide +kernel
theorem dX0_wide_85 : decode cX0_wide 85 = .ok (.bipush 10, 2) := by decide +kernel
theorem dX0_wide_87 : decode cX0_wide 87 = .ok (.invokevirtual 143, 3) := by decide +kernel
theorem dX0_wide_90 : decode cX0_wide 90 = .ok (.goto 11, 3) := by decide +kernel
theorem dX0_wide_93 : decode cX0_wide 93 = .ok (.aload_n 0, 1) := by decide +kernel
theorem dX0_wide_94 : decode cX0_wide 94 = .ok (.iload_n 2, 1) := by decide +kernel
theorem dX0_wide_95 : decode cX0_wide 95 = .ok (.iconst 4, 1) := by decide +kernel
theorem dX0_wide_96 : decode cX0_wide 96 = .ok (.bipush 11, 2) := by decide +kernel
theorem dX0_wide_98 : decode cX0_wide 98 = .ok (.invokevirtual 146, 3) := by decide +kernel
theorem dX0_wide_101 : decode cX0_wide 101 = .ok (.return_, 1) := by decide +kernel
theorem dX0_loadConstant_0 : decode cX0_loadConstant 0 = .ok (.aload_n 0, 1) := by decide +kernel
theorem dX0_loadConstant_1 : decode cX0_loadConstant 1 = .ok (.getfield 17, 3) := by decide +kernel
theorem dX0_loadConstant_4 : decode cX0_loadConstant 4 = .ok (.iconst 3, 1) := by decide +kernel
theorem dX0_loadConstant_5 : decode cX0_loadConstant 5 = .ok (.invokestatic 53, 3) := by decide +kernel
theorem dX0_loadConstant_8 : decode cX0_loadConstant 8 = .ok (.ifCond .ne 8, 3) := by decide +kernel
theorem dX0_loadConstant_11 : decode cX0_loadConstant 11 = .ok (.aload_n 0, 1) := by decide +kernel
theorem dX0_loadConstant_12 : decode cX0_loadConstant 12 = .ok (.invokevirtual 74, 3) := by decide +kernel
theorem dX0_loadConstant_15 : decode cX0_loadConstant 15 = .ok (.return_, 1) := by decide +kernel
theorem dX0_loadConstant_16 : decode cX0_loadConstant 16 = .ok (.aload_n 0, 1) := by decide +kernel
theorem dX0_loadConstant_17 : decode cX0_loadConstant 17 = .ok (.aload_n 0, 1) := by decide +kernel
theorem dX0_loadConstant_18 : decode cX0_loadConstant 18 = .ok (.getfield 27, 3) := by decide +kernel
theorem dX0_loadConstant_21 : decode cX0_loadConstant 21 = .ok (.aload_n 0, 1) := by decide +kernel
theorem dX0_loadConstant_22 : decode cX0_loadConstant 22 = .ok (.aload_n 0, 1) := by decide +kernel
theorem dX0_loadConstant_23 : decode cX0_loadConstant 23 = .ok (.getfield 17, 3) := by decide +kernel
theorem dX0_loadConstant_26 : decode cX0_loadConstant 26 = .ok (.iconst 1, 1) := by decide +kernel
theorem dX0_loadConstant_27 : decode cX0_loadConstant 27 = .ok (.iadd, 1) := by decide +kernel
theorem dX0_loadConstant_28 : decode cX0_loadConstant 28 = .ok (.invokevirtual 149, 3) := by decide +kernel
theorem dX0_loadConstant_31 : decode cX0_loadConstant 31 = .ok (.iadd, 1) := by decide +kernel
theorem dX0_loadConstant_32 : decode cX0_loadConstant 32 = .ok (.iconst 3, 1) := by decide +kernel
theorem dX0_loadConstant_33 : decode cX0_loadConstant 33 = .ok (.bipush 8, 2) := by decide +kernel
theorem dX0_loadConstant_35 : decode cX0_loadConstant 35 = .ok (.invokevirtual 143, 3) := by decide +kernel
theorem dX0_loadConstant_38 : decode cX0_loadConstant 38 = .ok (.return_, 1) := by decide +kernel
theorem dX0_load_0 : decode cX0_load 0 = .ok (.iload_n 1, 1) := by decide +kernel
theorem dX0_load_1 : decode cX0_load 1 = .ok (.invokestatic 42, 3) := by decide +kernel
theorem dX0_load_4 : decode cX0_load 4 = .ok (.ifCond .ne 8, 3) := by decide +kernel
theorem dX0_load_7 : decode cX0_load 7 = .ok (.aload_n 0, 1) := by decide +kernel
theorem dX0_load_8 : decode cX0_load 8 = .ok (.invokevirtual 74, 3) := by decide +kernel
theorem dX0_load_11 : decode cX0_load 11 = .ok (.return_, 1) := by decide +kernel
theorem dX0_load_12 : decode cX0_load 12 = .ok (.aload_n 0, 1) := by decide +kernel
theorem dX0_load_13 : decode cX0_load 13 = .ok (.aload_n 0, 1) := by decide +kernel
theorem dX0_load_14 : decode cX0_load 14 = .ok (.getfield 9, 3) := by decide +kernel
theorem dX0_load_17 : decode cX0_load 17 = .ok (.iload_n 1, 1) := by decide +kernel
theorem dX0_load_18 : decode cX0_load 18 = .ok (.iaload, 1) := by decide +kernel
theorem dX0_load_19 : decode cX0_load 19 = .ok (.iload_n 2, 1) := by decide +kernel
theorem dX0_load_20 : decode cX0_load 20 = .ok (.iload_n 3, 1) := by decide +kernel
theorem dX0_load_21 : decode cX0_load 21 = .ok (.invokevirtual 89, 3) := by decide +kernel
theorem dX0_load_24 : decode cX0_load 24 = .ok (.return_, 1) := by decide +kernel
theorem dX0_store_0 : decode cX0_store 0 = .ok (.aload_n 0, 1) := by decide +kernel
theorem dX0_store_1 : decode cX0_store 1 = .ok (.getfield 21, 3) := by decide +kernel
theorem dX0_store_4 : decode cX0_store 4 = .ok (.iconst 1, 1) := by decide +kernel
theorem dX0_store_5 : decode cX0_store 5 = .ok (.isub, 1) := by decide +kernel
theorem dX0_store_6 : decode cX0_store 6 = .ok (.istore 4, 2) := by decide +kernel
theorem dX0_store_8 : decode cX0_store 8 = .ok (.iload_n 1, 1) := by decide +kernel
theorem dX0_store_9 : decode cX0_store 9 = .ok (.invokestatic 42, 3) := by decide +kernel
theorem dX0_store_12 : decode cX0_store 12 = .ok (.ifCond .eq 11, 3) := by decide +kernel
theorem dX0_store_15 : decode cX0_store 15 = .ok (.iload 4, 2) := by decide +kernel
theorem dX0_store_17 : decode cX0_store 17 = .ok (.invokestatic 42, 3) := by decide +kernel
theorem dX0_store_20 : decode cX0_store 20 = .ok (.ifCond .ne 8, 3) := by decide +kernel
theorem dX0_store_23 : decode cX0_store 23 = .ok (.aload_n 0, 1) := by decide +kernel
theorem dX0_store_24 : decode cX0_store 24 = .ok (.invokevirtual 74, 3) := by decide +kernel
theorem dX0_store_27 : decode cX0_store 27 = .ok (.return_, 1) := by decide +kernel
theorem dX0_store_28 : decode cX0_store 28 = .ok (.aload_n 0, 1) := by decide +kernel
theorem dX0_store_29 : decode cX0_store 29 = .ok (.getfield 9, 3) := by decide +kernel
theorem dX0_store_32 : decode cX0_store 32 = .ok (.iload_n 1, 1) := by decide +kernel
theorem dX0_store_33 : decode cX0_store 33 = .ok (.aload_n 0, 1) := by decide +kernel
theorem dX0_store_34 : decode cX0_store 34 = .ok (.getfield 30, 3) := by decide +kernel
theorem dX0_store_37 : decode cX0_store 37 = .ok (.iastore, 1) := by decide +kernel
theorem dX0_store_38 : decode cX0_store 38 = .ok (.aload_n 0, 1) := by decide +kernel
theorem dX0_store_39 : decode cX0_store 39 = .ok (.iload 4, 2) := by decide +kernel
theorem dX0_store_41 : decode cX0_store 41 = .ok (.putfield 21, 3) := by decide +kernel
theorem dX0_store_44 : decode cX0_store 44 = .ok (.aload_n 0, 1) := by decide +kernel
theorem dX0_store_45 : decode cX0_store 45 = .ok (.aload_n 0, 1) := by decide +kernel
theorem dX0_store_46 : decode cX0_store 46 = .ok (.getfield 9, 3) := by decide +kernel
theorem dX0_store_49 : decode cX0_store 49 = .ok (.iload 4, 2) := by decide +kernel
theorem dX0_store_51 : decode cX0_store 51 = .ok (.iaload, 1) := by decide +kernel
theorem dX0_store_52 : decode cX0_store 52 = .ok (.putfield 30, 3) := by decide +kernel
theorem dX0_store_55 : decode cX0_store 55 = .ok (.aload_n 0, 1) := by decide +kernel
theorem dX0_store_56 : decode cX0_store 56 = .ok (.aload_n 0, 1) := by decide +kernel
theorem dX0_store_57 : decode cX0_store 57 = .ok (.getfield 17, 3) := by decide +kernel
theorem dX0_store_60 : decode cX0_store 60 = .ok (.iload_n 2, 1) := by decide +kernel
theorem dX0_store_61 : decode cX0_store 61 = .ok (.iadd, 1) := by decide +kernel
theorem dX0_store_62 : decode cX0_store 62 = .ok (.iload_n 3, 1) := by decide +kernel
theorem dX0_store_63 : decode cX0_store 63 = .ok (.invokevirtual 81, 3) := by decide +kernel
theorem dX0_store_66 : decode cX0_store 66 = .ok (.return_, 1) := by decide +kernel
theorem dX0_increase_0 : decode cX0_increase 0 = .ok (.aload_n 0, 1) := by decide +kernel
theorem dX0_increase_1 : decode cX0_increase 1 = .ok (.getfield 17, 3) := by decide +kernel
theorem dX0_increase_4 : decode cX0_increase 4 = .ok (.iconst 3, 1) := by decide +kernel
theorem dX0_increase_5 : decode cX0_increase 5 = .ok (.invokestatic 53, 3) := by decide +kernel
theorem dX0_increase_8 : decode cX0_increase 8 = .ok (.ifCond .ne 8, 3) := by decide +kernel
theorem dX0_increase_11 : decode cX0_increase 11 = .ok (.aload_n 0, 1) := by decide +kernel
theorem dX0_increase_12 : decode cX0_increase 12 = .ok (.invokevirtual 74, 3) := by decide +kernel
theorem dX0_increase_15 : decode cX0_increase 15 = .ok (.return_, 1) := by decide +kernel
theorem dX0_increase_16 : decode cX0_increase 16 = .ok (.aload_n 0, 1) := by decide +kernel
theorem dX0_increase_17 : decode cX0_increase 17 = .ok (.getfield 24, 3) := by decide +kernel
theorem dX0_increase_20 : decode cX0_increase 20 = .ok (.aload_n 0, 1) := by decide +kernel
theorem dX0_increase_21 : decode cX0_increase 21 = .ok (.aload_n 0, 1) := by decide +kernel
theorem dX0_increase_22 : decode cX0_increase 22 = .ok (.getfield 17, 3) := by decide +kernel
theorem dX0_increase_25 : decode cX0_increase 25 = .ok (.iconst 1, 1) := by decide +kernel
theorem dX0_increase_26 : decode cX0_increase 26 = .ok (.iadd, 1) := by decide +kernel
theorem dX0_increase_27 : decode cX0_increase 27 = .ok (.invokevirtual 77, 3) := by decide +kernel
theorem dX0_increase_30 : decode cX0_increase 30 = .ok (.iadd, 1) := by decide +kernel
theorem dX0_increase_31 : decode cX0_increase 31 = .ok (.istore_n 1, 1) := by decide +kernel
theorem dX0_increase_32 : decode cX0_increase 32 = .ok (.iload_n 1, 1) := by decide +kernel
theorem dX0_increase_33 : decode cX0_increase 33 = .ok (.invokestatic 42, 3) := by decide +kernel
theorem dX0_increase_36 : decode cX0_increase 36 = .ok (.ifCond .ne 8, 3) := by decide +kernel
theorem dX0_increase_39 : decode cX0_increase 39 = .ok (.aload_n 0, 1) := by decide +kernel
theorem dX0_increase_40 : decode cX0_increase 40 = .ok (.invokevirtual 74, 3) := by decide +kernel
theorem dX0_increase_43 : decode cX0_increase 43 = .ok (.return_, 1) := by decide +kernel
theorem dX0_increase_44 : decode cX0_increase 44 = .ok (.aload_n 0, 1) := by decide +kernel
theorem dX0_increase_45 : decode cX0_increase 45 = .ok (.getfield 9, 3) := by decide +kernel
theorem dX0_increase_48 : decode cX0_increase 48 = .ok (.iload_n 1, 1) := by decide +kernel
theorem dX0_increase_49 : decode cX0_increase 49 = .ok (.dup2, 1) := by decide +kernel
theorem dX0_increase_50 : decode cX0_increase 50 = .ok (.iaload, 1) := by decide +kernel
theorem dX0_increase_51 : decode cX0_increase 51 = .ok (.aload_n 0, 1) := by decide +kernel
theorem dX0_increase_52 : decode cX0_increase 52 = .ok (.getfield 13, 3) := by decide +kernel
theorem dX0_increase_55 : decode cX0_increase 55 = .ok (.aload_n 0, 1) := by decide +kernel
theorem dX0_increase_56 : decode cX0_increase 56 = .ok (.getfield 17, 3) := by decide +kernel
theorem dX0_increase_59 : decode cX0_increase 59 = .ok (.iconst 2, 1) := by decide +kernel
theorem dX0_increase_60 : decode cX0_increase 60 = .ok (.iadd, 1) := by decide +kernel
theorem dX0_increase_61 : decode cX0_increase 61 = .ok (.baload, 1) := by decide +kernel
theorem dX0_increase_62 : decode cX0_increase 62 = .ok (.iadd, 1) := by decide +kernel
theorem dX0_increase_63 : decode cX0_increase 63 = .ok (.iastore, 1) := by decide +kernel
theorem dX0_increase_64 : decode cX0_increase 64 = .ok (.aload_n 0, 1) := by decide +kernel
theorem dX0_increase_65 : decode cX0_increase 65 = .ok (.aload_n 0, 1) := by decide +kernel
theorem dX0_increase_66 : decode cX0_increase 66 = .ok (.getfield 17, 3) := by decide +kernel
theorem dX0_increase_69 : decode cX0_increase 69 = .ok (.iconst 3, 1) := by decide +kernel
theorem dX0_increase_70 : decode cX0_increase 70 = .ok (.iadd, 1) := by decide +kernel
theorem dX0_increase_71 : decode cX0_increase 71 = .ok (.bipush 7, 2) := by decide +kernel
theorem dX0_increase_73 : decode cX0_increase 73 = .ok (.invokevirtual 81, 3) := by decide +kernel
theorem dX0_increase_76 : decode cX0_increase 76 = .ok (.return_, 1) := by decide +kernel
theorem dX0_jump_0 : decode cX0_jump 0 = .ok (.aload_n 0, 1) := by decide +kernel
theorem dX0_jump_1 : decode cX0_jump 1 = .ok (.getfield 17, 3) := by decide +kernel
theorem dX0_jump_4 : decode cX0_jump 4 = .ok (.iconst 3, 1) := by decide +kernel
theorem dX0_jump_5 : decode cX0_jump 5 = .ok (.invokestatic 53, 3) := by decide +kernel
theorem dX0_jump_8 : decode cX0_jump 8 = .ok (.ifCond .ne 8, 3) := by decide +kernel
theorem dX0_jump_11 : decode cX0_jump 11 = .ok (.aload_n 0, 1) := by decide +kernel
theorem dX0_jump_12 : decode cX0_jump 12 = .ok (.invokevirtual 74, 3) := by decide +kernel
theorem dX0_jump_15 : decode cX0_jump 15 = .ok (.return_, 1) := by decide +kernel
theorem dX0_jump_16 : decode cX0_jump 16 = .ok (.aload_n 0, 1) := by decide +kernel
theorem dX0_jump_17 : decode cX0_jump 17 = .ok (.aload_n 0, 1) := by decide +kernel
theorem dX0_jump_18 : decode cX0_jump 18 = .ok (.getfield 17, 3) := by decide +kernel
theorem dX0_jump_21 : decode cX0_jump 21 = .ok (.aload_n 0, 1) := by decide +kernel
theorem dX0_jump_22 : decode cX0_jump 22 = .ok (.aload_n 0, 1) := by decide +kernel
theorem dX0_jump_23 : decode cX0_jump 23 = .ok (.getfield 17, 3) := by decide +kernel
theorem dX0_jump_26 : decode cX0_jump 26 = .ok (.iconst 1, 1) := by decide +kernel
theorem dX0_jump_27 : decode cX0_jump 27 = .ok (.iadd, 1) := by decide +kernel
theorem dX0_jump_28 : decode cX0_jump 28 = .ok (.invokevirtual 152, 3) := by decide +kernel
theorem dX0_jump_31 : decode cX0_jump 31 = .ok (.iadd, 1) := by decide +kernel
theorem dX0_jump_32 : decode cX0_jump 32 = .ok (.iload_n 1, 1) := by decide +kernel
theorem dX0_jump_33 : decode cX0_jump 33 = .ok (.invokevirtual 81, 3) := by decide +kernel
theorem dX0_jump_36 : decode cX0_jump 36 = .ok (.return_, 1) := by decide +kernel
theorem dX0_jumpOnTop_0 : decode cX0_jumpOnTop 0 = .ok (.aload_n 0, 1) := by decide +kernel
theorem dX0_jumpOnTop_1 : decode cX0_jumpOnTop 1 = .ok (.getfield 21, 3) := by decide +kernel
theorem dX0_jumpOnTop_4 : decode cX0_jumpOnTop 4 = .ok (.iconst 1, 1) := by decide +kernel
theorem dX0_jumpOnTop_5 : decode cX0_jumpOnTop 5 = .ok (.isub, 1) := by decide +kernel
theorem dX0_jumpOnTop_6 : decode cX0_jumpOnTop 6 = .ok (.istore_n 2, 1) := by decide +kernel
theorem dX0_jumpOnTop_7 : decode cX0_jumpOnTop 7 = .ok (.iload_n 2, 1) := by decide +kernel
theorem dX0_jumpOnTop_8 : decode cX0_jumpOnTop 8 = .ok (.invokestatic 42, 3) := by decide +kernel
theorem dX0_jumpOnTop_11 : decode cX0_jumpOnTop 11 = .ok (.ifCond .ne 8, 3) := by decide +kernel
theorem dX0_jumpOnTop_14 : decode cX0_jumpOnTop 14 = .ok (.aload_n 0, 1) := by decide +kernel
theorem dX0_jumpOnTop_15 : decode cX0_jumpOnTop 15 = .ok (.invokevirtual 74, 3) := by decide +kernel
theorem dX0_jumpOnTop_18 : decode cX0_jumpOnTop 18 = .ok (.return_, 1) := by decide +kernel
theorem dX0_jumpOnTop_19 : decode cX0_jumpOnTop 19 = .ok (.aload_n 0, 1) := by decide +kernel
theorem dX0_jumpOnTop_20 : decode cX0_jumpOnTop 20 = .ok (.iload_n 1, 1) := by decide +kernel
theorem dX0_jumpOnTop_21 : decode cX0_jumpOnTop 21 = .ok (.iload_n 2, 1) := by decide +kernel
theorem dX0_jumpOnTop_22 : decode cX0_jumpOnTop 22 = .ok (.bipush 8, 2) := by decide +kernel
theorem dX0_jumpOnTop_24 : decode cX0_jumpOnTop 24 = .ok (.invokevirtual 155, 3) := by decide +kernel
theorem dX0_jumpOnTop_27 : decode cX0_jumpOnTop 27 = .ok (.return_, 1) := by decide +kernel
theorem dX0_jumpOnLike_0 : decode cX0_jumpOnLike 0 = .ok (.aload_n 0, 1) := by decide +kernel
theorem dX0_jumpOnLike_1 : decode cX0_jumpOnLike 1 = .ok (.getfield 21, 3) := by decide +kernel
theorem dX0_jumpOnLike_4 : decode cX0_jumpOnLike 4 = .ok (.iconst 1, 1) := by decide +kernel
theorem dX0_jumpOnLike_5 : decode cX0_jumpOnLike 5 = .ok (.isub, 1) := by decide +kernel
theorem dX0_jumpOnLike_6 : decode cX0_jumpOnLike 6 = .ok (.istore_n 1, 1) := by decide +kernel
theorem dX0_jumpOnLike_7 : decode cX0_jumpOnLike 7 = .ok (.aload_n 0, 1) := by decide +kernel
theorem dX0_jumpOnLike_8 : decode cX0_jumpOnLike 8 = .ok (.getfield 21, 3) := by decide +kernel
theorem dX0_jumpOnLike_11 : decode cX0_jumpOnLike 11 = .ok (.iconst 2, 1) := by decide +kernel
theorem dX0_jumpOnLike_12 : decode cX0_jumpOnLike 12 = .ok (.isub, 1) := by decide +kernel
theorem dX0_jumpOnLike_13 : decode cX0_jumpOnLike 13 = .ok (.istore_n 2, 1) := by decide +kernel
theorem dX0_jumpOnLike_14 : decode cX0_jumpOnLike 14 = .ok (.iload_n 1, 1) := by decide +kernel
theorem dX0_jumpOnLike_15 : decode cX0_jumpOnLike 15 = .ok (.invokestatic 42, 3) := by decide +kernel
theorem dX0_jumpOnLike_18 : decode cX0_jumpOnLike 18 = .ok (.ifCond .eq 10, 3) := by decide +kernel
theorem dX0_jumpOnLike_21 : decode cX0_jumpOnLike 21 = .ok (.iload_n 2, 1) := by decide +kernel
theorem dX0_jumpOnLike_22 : decode cX0_jumpOnLike 22 = .ok (.invokestatic 42, 3) := by decide +kernel
theorem dX0_jumpOnLike_25 : decode cX0_jumpOnLike 25 = .ok (.ifCond .ne 8, 3) := by decide +kernel
theorem dX0_jumpOnLike_28 : decode cX0_jumpOnLike 28 = .ok (.aload_n 0, 1) := by decide +kernel
theorem dX0_jumpOnLike_29 : decode cX0_jumpOnLike 29 = .ok (.invokevirtual 74, 3) := by decide +kernel
theorem dX0_jumpOnLike_32 : decode cX0_jumpOnLike 32 = .ok (.return_, 1) := by decide +kernel
theorem dX0_jumpOnLike_33 : decode cX0_jumpOnLike 33 = .ok (.aload_n 0, 1) := by decide +kernel
theorem dX0_jumpOnLike_34 : decode cX0_jumpOnLike 34 = .ok (.aload_n 0, 1) := by decide +kernel
theorem dX0_jumpOnLike_35 : decode cX0_jumpOnLike 35 = .ok (.getfield 30, 3) := by decide +kernel
theorem dX0_jumpOnLike_38 : decode cX0_jumpOnLike 38 = .ok (.aload_n 0, 1) := by decide +kernel
theorem dX0_jumpOnLike_39 : decode cX0_jumpOnLike 39 = .ok (.getfield 9, 3) := by decide +kernel
theorem dX0_jumpOnLike_42 : decode cX0_jumpOnLike 42 = .ok (.iload_n 1, 1) := by decide +kernel
theorem dX0_jumpOnLike_43 : decode cX0_jumpOnLike 43 = .ok (.iaload, 1) := by decide +kernel
theorem dX0_jumpOnLike_44 : decode cX0_jumpOnLike 44 = .ok (.if_icmp .ne 7, 3) := by decide +kernel
theorem dX0_jumpOnLike_47 : decode cX0_jumpOnLike 47 = .ok (.iconst 1, 1) := by decide +kernel
theorem dX0_jumpOnLike_48 : decode cX0_jumpOnLike 48 = .ok (.goto 4, 3) := by decide +kernel
theorem dX0_jumpOnLike_51 : decode cX0_jumpOnLike 51 = .ok (.iconst 0, 1) := by decide +kernel
theorem dX0_jumpOnLike_52 : decode cX0_jumpOnLike 52 = .ok (.iload_n 2, 1) := by decide +kernel
theorem dX0_jumpOnLike_53 : decode cX0_jumpOnLike 53 = .ok (.bipush 10, 2) := by decide +kernel
theorem dX0_jumpOnLike_55 : decode cX0_jumpOnLike 55 = .ok (.invokevirtual 155, 3) := by decide +kernel
theorem dX0_jumpOnLike_58 : decode cX0_jumpOnLike 58 = .ok (.return_, 1) := by decide +kernel
theorem dX0_branch_0 : decode cX0_branch 0 = .ok (.iload_n 1, 1) := by decide +kernel
theorem dX0_branch_1 : decode cX0_branch 1 = .ok (.ifCond .eq 19, 3) := by decide +kernel
theorem dX0_branch_4 : decode cX0_branch 4 = .ok (.aload_n 0, 1) := by decide +kernel
theorem dX0_branch_5 : decode cX0_branch 5 = .ok (.getfield 17, 3) := by decide +kernel
theorem dX0_branch_8 : decode cX0_branch 8 = .ok (.iconst 3, 1) := by decide +kernel
theorem dX0_branch_9 : decode cX0_branch 9 = .ok (.invokestatic 53, 3) := by decide +kernel
theorem dX0_branch_12 : decode cX0_branch 12 = .ok (.ifCond .ne 8, 3) := by decide +kernel
theorem dX0_branch_15 : decode cX0_branch 15 = .ok (.aload_n 0, 1) := by decide +kernel
theorem dX0_branch_16 : decode cX0_branch 16 = .ok (.invokevirtual 74, 3) := by decide +kernel
theorem dX0_branch_19 : decode cX0_branch 19 = .ok (.return_, 1) := by decide +kernel
theorem dX0_branch_20 : decode cX0_branch 20 = .ok (.aload_n 0, 1) := by decide +kernel
theorem dX0_branch_21 : decode cX0_branch 21 = .ok (.iload_n 2, 1) := by decide +kernel
theorem dX0_branch_22 : decode cX0_branch 22 = .ok (.putfield 21, 3) := by decide +kernel
theorem dX0_branch_25 : decode cX0_branch 25 = .ok (.aload_n 0, 1) := by decide +kernel
theorem dX0_branch_26 : decode cX0_branch 26 = .ok (.aload_n 0, 1) := by decide +kernel
theorem dX0_branch_27 : decode cX0_branch 27 = .ok (.getfield 9, 3) := by decide +kernel
theorem dX0_branch_30 : decode cX0_branch 30 = .ok (.iload_n 2, 1) := by decide +kernel
theorem dX0_branch_31 : decode cX0_branch 31 = .ok (.iaload, 1) := by decide +kernel
theorem dX0_branch_32 : decode cX0_branch 32 = .ok (.putfield 30, 3) := by decide +kernel
theorem dX0_branch_35 : decode cX0_branch 35 = .ok (.iload_n 1, 1) := by decide +kernel
theorem dX0_branch_36 : decode cX0_branch 36 = .ok (.ifCond .eq 13, 3) := by decide +kernel
theorem dX0_branch_39 : decode cX0_branch 39 = .ok (.aload_n 0, 1) := by decide +kernel
theorem dX0_branch_40 : decode cX0_branch 40 = .ok (.iload_n 3, 1) := by decide +kernel
theorem dX0_branch_41 : decode cX0_branch 41 = .ok (.iconst 3, 1) := by decide +kernel
theorem dX0_branch_42 : decode cX0_branch 42 = .ok (.iadd, 1) := by decide +kernel
theorem dX0_branch_43 : decode cX0_branch 43 = .ok (.invokevirtual 117, 3) := by decide +kernel
theorem dX0_branch_46 : decode cX0_branch 46 = .ok (.goto 14, 3) := by decide +kernel
theorem dX0_branch_49 : decode cX0_branch 49 = .ok (.aload_n 0, 1) := by decide +kernel
theorem dX0_branch_50 : decode cX0_branch 50 = .ok (.aload_n 0, 1) := by decide +kernel
theorem dX0_branch_51 : decode cX0_branch 51 = .ok (.getfield 17, 3) := by decide +kernel
theorem dX0_branch_54 : decode cX0_branch 54 = .ok (.iconst 3, 1) := by decide +kernel
theorem dX0_branch_55 : decode cX0_branch 55 = .ok (.iadd, 1) := by decide +kernel
theorem dX0_branch_56 : decode cX0_branch 56 = .ok (.iload_n 3, 1) := by decide +kernel
theorem dX0_branch_57 : decode cX0_branch 57 = .ok (.invokevirtual 81, 3) := by decide +kernel
theorem dX0_branch_60 : decode cX0_branch 60 = .ok (.return_, 1) := by decide +kernel
theorem dX0_enter_0 : decode cX0_enter 0 = .ok (.aload_n 0, 1) := by decide +kernel
theorem dX0_enter_1 : decode cX0_enter 1 = .ok (.getfield 17, 3) := by decide +kernel
theorem dX0_enter_4 : decode cX0_enter 4 = .ok (.iconst 3, 1) := by decide +kernel
theorem dX0_enter_5 : decode cX0_enter 5 = .ok (.invokestatic 53, 3) := by decide +kernel
theorem dX0_enter_8 : decode cX0_enter 8 = .ok (.ifCond .ne 8, 3) := by decide +kernel
theorem dX0_enter_11 : decode cX0_enter 11 = .ok (.aload_n 0, 1) := by decide +kernel
theorem dX0_enter_12 : decode cX0_enter 12 = .ok (.invokevirtual 74, 3) := by decide +kernel
theorem dX0_enter_15 : decode cX0_enter 15 = .ok (.return_, 1) := by decide +kernel
theorem dX0_enter_16 : decode cX0_enter 16 = .ok (.aload_n 0, 1) := by decide +kernel
theorem dX0_enter_17 : decode cX0_enter 17 = .ok (.getfield 27, 3) := by decide +kernel
theorem dX0_enter_20 : decode cX0_enter 20 = .ok (.aload_n 0, 1) := by decide +kernel
theorem dX0_enter_21 : decode cX0_enter 21 = .ok (.aload_n 0, 1) := by decide +kernel
theorem dX0_enter_22 : decode cX0_enter 22 = .ok (.getfield 17, 3) := by decide +kernel
theorem dX0_enter_25 : decode cX0_enter 25 = .ok (.iconst 1, 1) := by decide +kernel
theorem dX0_enter_26 : decode cX0_enter 26 = .ok (.iadd, 1) := by decide +kernel
theorem dX0_enter_27 : decode cX0_enter 27 = .ok (.invokevirtual 149, 3) := by decide +kernel
theorem dX0_enter_30 : decode cX0_enter 30 = .ok (.iadd, 1) := by decide +kernel
theorem dX0_enter_31 : decode cX0_enter 31 = .ok (.istore_n 1, 1) := by decide +kernel
theorem dX0_enter_32 : decode cX0_enter 32 = .ok (.iload_n 1, 1) := by decide +kernel
theorem dX0_enter_33 : decode cX0_enter 33 = .ok (.invokestatic 42, 3) := by decide +kernel
theorem dX0_enter_36 : decode cX0_enter 36 = .ok (.ifCond .eq 16, 3) := by decide +kernel
theorem dX0_enter_39 : decode cX0_enter 39 = .ok (.aload_n 0, 1) := by decide +kernel
theorem dX0_enter_40 : decode cX0_enter 40 = .ok (.getfield 9, 3) := by decide +kernel
theorem dX0_enter_43 : decode cX0_enter 43 = .ok (.iload_n 1, 1) := by decide +kernel
theorem dX0_enter_44 : decode cX0_enter 44 = .ok (.iaload, 1) := by decide +kernel
theorem dX0_enter_45 : decode cX0_enter 45 = .ok (.iconst 4, 1) := by decide +kernel
theorem dX0_enter_46 : decode cX0_enter 46 = .ok (.invokestatic 53, 3) := by decide +kernel
theorem dX0_enter_49 : decode cX0_enter 49 = .ok (.ifCond .ne 8, 3) := by decide +kernel
theorem dX0_enter_52 : decode cX0_enter 52 = .ok (.aload_n 0, 1) := by decide +kernel
theorem dX0_enter_53 : decode cX0_enter 53 = .ok (.invokevirtual 74, 3) := by decide +kernel
theorem dX0_enter_56 : decode cX0_enter 56 = .ok (.return_, 1) := by decide +kernel
theorem dX0_enter_57 : decode cX0_enter 57 = .ok (.aload_n 0, 1) := by decide +kernel
theorem dX0_enter_58 : decode cX0_enter 58 = .ok (.getfield 9, 3) := by decide +kernel
theorem dX0_enter_61 : decode cX0_enter 61 = .ok (.iload_n 1, 1) := by decide +kernel
theorem dX0_enter_62 : decode cX0_enter 62 = .ok (.iaload, 1) := by decide +kernel
theorem dX0_enter_63 : decode cX0_enter 63 = .ok (.istore_n 2, 1) := by decide +kernel
theorem dX0_enter_64 : decode cX0_enter 64 = .ok (.aload_n 0, 1) := by decide +kernel
theorem dX0_enter_65 : decode cX0_enter 65 = .ok (.getfield 21, 3) := by decide +kernel
theorem dX0_enter_68 : decode cX0_enter 68 = .ok (.aload_n 0, 1) := by decide +kernel
theorem dX0_enter_69 : decode cX0_enter 69 = .ok (.iload_n 2, 1) := by decide +kernel
theorem dX0_enter_70 : decode cX0_enter 70 = .ok (.invokevirtual 149, 3) := by decide +kernel
theorem dX0_enter_73 : decode cX0_enter 73 = .ok (.isub, 1) := by decide +kernel
theorem dX0_enter_74 : decode cX0_enter 74 = .ok (.iconst 1, 1) := by decide +kernel
theorem dX0_enter_75 : decode cX0_enter 75 = .ok (.iadd, 1) := by decide +kernel
theorem dX0_enter_76 : decode cX0_enter 76 = .ok (.istore_n 3, 1) := by decide +kernel
theorem dX0_enter_77 : decode cX0_enter 77 = .ok (.aload_n 0, 1) := by decide +kernel
theorem dX0_enter_78 : decode cX0_enter 78 = .ok (.getfield 21, 3) := by decide +kernel
theorem dX0_enter_81 : decode cX0_enter 81 = .ok (.aload_n 0, 1) := by decide +kernel
theorem dX0_enter_82 : decode cX0_enter 82 = .ok (.iload_n 2, 1) := by decide +kernel
theorem dX0_enter_83 : decode cX0_enter 83 = .ok (.iconst 2, 1) := by decide +kernel
theorem dX0_enter_84 : decode cX0_enter 84 = .ok (.iadd, 1) := by decide +kernel
theorem dX0_enter_85 : decode cX0_enter 85 = .ok (.invokevirtual 149, 3) := by decide +kernel
theorem dX0_enter_88 : decode cX0_enter 88 = .ok (.iadd, 1) := by decide +kernel
theorem dX0_enter_89 : decode cX0_enter 89 = .ok (.iconst 1, 1) := by decide +kernel
theorem dX0_enter_90 : decode cX0_enter 90 = .ok (.iadd, 1) := by decide +kernel
theorem dX0_enter_91 : decode cX0_enter 91 = .ok (.istore 4, 2) := by decide +kernel
theorem dX0_enter_93 : decode cX0_enter 93 = .ok (.iload_n 3, 1) := by decide +kernel
theorem dX0_enter_94 : decode cX0_enter 94 = .ok (.invokestatic 42, 3) := by decide +kernel
theorem dX0_enter_97 : decode cX0_enter 97 = .ok (.ifCond .eq 21, 3) := by decide +kernel
theorem dX0_enter_100 : decode cX0_enter 100 = .ok (.iload 4, 2) := by decide +kernel
theorem dX0_enter_102 : decode cX0_enter 102 = .ok (.invokestatic 42, 3) := by decide +kernel
theorem dX0_enter_105 : decode cX0_enter 105 = .ok (.ifCond .eq 13, 3) := by decide +kernel
theorem dX0_enter_108 : decode cX0_enter 108 = .ok (.iload 4, 2) := by decide +kernel
theorem dX0_enter_110 : decode cX0_enter 110 = .ok (.iconst 1, 1) := by decide +kernel
theorem dX0_enter_111 : decode cX0_enter 111 = .ok (.iadd, 1) := by decide +kernel
theorem dX0_enter_112 : decode cX0_enter 112 = .ok (.invokestatic 42, 3) := by decide +kernel
theorem dX0_enter_115 : decode cX0_enter 115 = .ok (.ifCond .ne 8, 3) := by decide +kernel
theorem dX0_enter_118 : decode cX0_enter 118 = .ok (.aload_n 0, 1) := by decide +kernel
theorem dX0_enter_119 : decode cX0_enter 119 = .ok (.invokevirtual 74, 3) := by decide +kernel
theorem dX0_enter_122 : decode cX0_enter 122 = .ok (.return_, 1) := by decide +kernel
theorem dX0_enter_123 : decode cX0_enter 123 = .ok (.aload_n 0, 1) := by decide +kernel
theorem dX0_enter_124 : decode cX0_enter 124 = .ok (.getfield 9, 3) := by decide +kernel
theorem dX0_enter_127 : decode cX0_enter 127 = .ok (.iload_n 3, 1) := by decide +kernel
theorem dX0_enter_128 : decode cX0_enter 128 = .ok (.iload 4, 2) := by decide +kernel
theorem dX0_enter_130 : decode cX0_enter 130 = .ok (.iastore, 1) := by decide +kernel
theorem dX0_enter_131 : decode cX0_enter 131 = .ok (.aload_n 0, 1) := by decide +kernel
theorem dX0_enter_132 : decode cX0_enter 132 = .ok (.getfield 9, 3) := by decide +kernel
theorem dX0_enter_135 : decode cX0_enter 135 = .ok (.iload 4, 2) := by decide +kernel
theorem dX0_enter_137 : decode cX0_enter 137 = .ok (.aload_n 0, 1) := by decide +kernel
theorem dX0_enter_138 : decode cX0_enter 138 = .ok (.getfield 17, 3) := by decide +kernel
theorem dX0_enter_141 : decode cX0_enter 141 = .ok (.iconst 3, 1) := by decide +kernel
theorem dX0_enter_142 : decode cX0_enter 142 = .ok (.iadd, 1) := by decide +kernel
theorem dX0_enter_143 : decode cX0_enter 143 = .ok (.iastore, 1) := by decide +kernel
theorem dX0_enter_144 : decode cX0_enter 144 = .ok (.aload_n 0, 1) := by decide +kernel
theorem dX0_enter_145 : decode cX0_enter 145 = .ok (.getfield 9, 3) := by decide +kernel
theorem dX0_enter_148 : decode cX0_enter 148 = .ok (.iload 4, 2) := by decide +kernel
theorem dX0_enter_150 : decode cX0_enter 150 = .ok (.iconst 1, 1) := by decide +kernel
theorem dX0_enter_151 : decode cX0_enter 151 = .ok (.iadd, 1) := by decide +kernel
theorem dX0_enter_152 : decode cX0_enter 152 = .ok (.aload_n 0, 1) := by decide +kernel
theorem dX0_enter_153 : decode cX0_enter 153 = .ok (.getfield 24, 3) := by decide +kernel
theorem dX0_enter_156 : decode cX0_enter 156 = .ok (.iastore, 1) := by decide +kernel
theorem dX0_enter_157 : decode cX0_enter 157 = .ok (.aload_n 0, 1) := by decide +kernel
theorem dX0_enter_158 : decode cX0_enter 158 = .ok (.iload 4, 2) := by decide +kernel
theorem dX0_enter_160 : decode cX0_enter 160 = .ok (.iconst 1, 1) := by decide +kernel
theorem dX0_enter_161 : decode cX0_enter 161 = .ok (.iadd, 1) := by decide +kernel
theorem dX0_enter_162 : decode cX0_enter 162 = .ok (.putfield 21, 3) := by decide +kernel
theorem dX0_enter_165 : decode cX0_enter 165 = .ok (.aload_n 0, 1) := by decide +kernel
theorem dX0_enter_166 : decode cX0_enter 166 = .ok (.iload_n 3, 1) := by decide +kernel
theorem dX0_enter_167 : decode cX0_enter 167 = .ok (.putfield 24, 3) := by decide +kernel
theorem dX0_enter_170 : decode cX0_enter 170 = .ok (.aload_n 0, 1) := by decide +kernel
theorem dX0_enter_171 : decode cX0_enter 171 = .ok (.iload_n 3, 1) := by decide +kernel
theorem dX0_enter_172 : decode cX0_enter 172 = .ok (.putfield 30, 3) := by decide +kernel
theorem dX0_enter_175 : decode cX0_enter 175 = .ok (.aload_n 0, 1) := by decide +kernel
theorem dX0_enter_176 : decode cX0_enter 176 = .ok (.iload_n 2, 1) := by decide +kernel
theorem dX0_enter_177 : decode cX0_enter 177 = .ok (.iconst 4, 1) := by decide +kernel
theorem dX0_enter_178 : decode cX0_enter 178 = .ok (.iadd, 1) := by decide +kernel
theorem dX0_enter_179 : decode cX0_enter 179 = .ok (.bipush 23, 2) := by decide +kernel
theorem dX0_enter_181 : decode cX0_enter 181 = .ok (.invokevirtual 81, 3) := by decide +kernel
theorem dX0_enter_184 : decode cX0_enter 184 = .ok (.return_, 1) := by decide +kernel
theorem dX0_leave_0 : decode cX0_leave 0 = .ok (.aload_n 0, 1) := by decide +kernel
theorem dX0_leave_1 : decode cX0_leave 1 = .ok (.getfield 24, 3) := by decide +kernel
theorem dX0_leave_4 : decode cX0_leave 4 = .ok (.invokestatic 42, 3) := by decide +kernel
theorem dX0_leave_7 : decode cX0_leave 7 = .ok (.ifCond .ne 8, 3) := by decide +kernel
theorem dX0_leave_10 : decode cX0_leave 10 = .ok (.aload_n 0, 1) := by decide +kernel
theorem dX0_leave_11 : decode cX0_leave 11 = .ok (.invokevirtual 74, 3) := by decide +kernel
theorem dX0_leave_14 : decode cX0_leave 14 = .ok (.return_, 1) := by decide +kernel
theorem dX0_leave_15 : decode cX0_leave 15 = .ok (.aload_n 0, 1) := by decide +kernel
theorem dX0_leave_16 : decode cX0_leave 16 = .ok (.getfield 9, 3) := by decide +kernel
theorem dX0_leave_19 : decode cX0_leave 19 = .ok (.aload_n 0, 1) := by decide +kernel
theorem dX0_leave_20 : decode cX0_leave 20 = .ok (.getfield 24, 3) := by decide +kernel
theorem dX0_leave_23 : decode cX0_leave 23 = .ok (.iaload, 1) := by decide +kernel
theorem dX0_leave_24 : decode cX0_leave 24 = .ok (.istore_n 1, 1) := by decide +kernel
theorem dX0_leave_25 : decode cX0_leave 25 = .ok (.iload_n 1, 1) := by decide +kernel
theorem dX0_leave_26 : decode cX0_leave 26 = .ok (.invokestatic 42, 3) := by decide +kernel
theorem dX0_leave_29 : decode cX0_leave 29 = .ok (.ifCond .eq 12, 3) := by decide +kernel
theorem dX0_leave_32 : decode cX0_leave 32 = .ok (.iload_n 1, 1) := by decide +kernel
theorem dX0_leave_33 : decode cX0_leave 33 = .ok (.iconst 1, 1) := by decide +kernel
theorem dX0_leave_34 : decode cX0_leave 34 = .ok (.iadd, 1) := by decide +kernel
theorem dX0_leave_35 : decode cX0_leave 35 = .ok (.invokestatic 42, 3) := by decide +kernel
theorem dX0_leave_38 : decode cX0_leave 38 = .ok (.ifCond .ne 8, 3) := by decide +kernel
theorem dX0_leave_41 : decode cX0_leave 41 = .ok (.aload_n 0, 1) := by decide +kernel
theorem dX0_leave_42 : decode cX0_leave 42 = .ok (.invokevirtual 74, 3) := by decide +kernel
theorem dX0_leave_45 : decode cX0_leave 45 = .ok (.return_, 1) := by decide +kernel
theorem dX0_leave_46 : decode cX0_leave 46 = .ok (.aload_n 0, 1) := by decide +kernel
theorem dX0_leave_47 : decode cX0_leave 47 = .ok (.getfield 9, 3) := by decide +kernel
theorem dX0_leave_50 : decode cX0_leave 50 = .ok (.iload_n 1, 1) := by decide +kernel
theorem dX0_leave_51 : decode cX0_leave 51 = .ok (.iaload, 1) := by decide +kernel
theorem dX0_leave_52 : decode cX0_leave 52 = .ok (.istore_n 2, 1) := by decide +kernel
theorem dX0_leave_53 : decode cX0_leave 53 = .ok (.aload_n 0, 1) := by decide +kernel
theorem dX0_leave_54 : decode cX0_leave 54 = .ok (.getfield 9, 3) := by decide +kernel
theorem dX0_leave_57 : decode cX0_leave 57 = .ok (.iload_n 1, 1) := by decide +kernel
theorem dX0_leave_58 : decode cX0_leave 58 = .ok (.iconst 1, 1) := by decide +kernel
theorem dX0_leave_59 : decode cX0_leave 59 = .ok (.iadd, 1) := by decide +kernel
theorem dX0_leave_60 : decode cX0_leave 60 = .ok (.iaload, 1) := by decide +kernel
theorem dX0_leave_61 : decode cX0_leave 61 = .ok (.istore_n 3, 1) := by decide +kernel
theorem dX0_leave_62 : decode cX0_leave 62 = .ok (.aload_n 0, 1) := by decide +kernel
theorem dX0_leave_63 : decode cX0_leave 63 = .ok (.getfield 9, 3) := by decide +kernel
theorem dX0_leave_66 : decode cX0_leave 66 = .ok (.aload_n 0, 1) := by decide +kernel
theorem dX0_leave_67 : decode cX0_leave 67 = .ok (.getfield 24, 3) := by decide +kernel
theorem dX0_leave_70 : decode cX0_leave 70 = .ok (.aload_n 0, 1) := by decide +kernel
theorem dX0_leave_71 : decode cX0_leave 71 = .ok (.getfield 30, 3) := by decide +kernel
theorem dX0_leave_74 : decode cX0_leave 74 = .ok (.iastore, 1) := by decide +kernel
theorem dX0_leave_75 : decode cX0_leave 75 = .ok (.aload_n 0, 1) := by decide +kernel
theorem dX0_leave_76 : decode cX0_leave 76 = .ok (.aload_n 0, 1) := by decide +kernel
theorem dX0_leave_77 : decode cX0_leave 77 = .ok (.getfield 24, 3) := by decide +kernel
theorem dX0_leave_80 : decode cX0_leave 80 = .ok (.putfield 21, 3) := by decide +kernel
theorem dX0_leave_83 : decode cX0_leave 83 = .ok (.aload_n 0, 1) := by decide +kernel
theorem dX0_leave_84 : decode cX0_leave 84 = .ok (.iload_n 3, 1) := by decide +kernel
theorem dX0_leave_85 : decode cX0_leave 85 = .ok (.putfield 24, 3) := by decide +kernel
theorem dX0_leave_88 : decode cX0_leave 88 = .ok (.aload_n 0, 1) := by decide +kernel
theorem dX0_leave_89 : decode cX0_leave 89 = .ok (.iload_n 2, 1) := by decide +kernel
theorem dX0_leave_90 : decode cX0_leave 90 = .ok (.bipush 9, 2) := by decide +kernel
theorem dX0_leave_92 : decode cX0_leave 92 = .ok (.invokevirtual 81, 3) := by decide +kernel
theorem dX0_leave_95 : decode cX0_leave 95 = .ok (.return_, 1) := by decide +kernel
theorem dX0_halt_0 : decode cX0_halt 0 = .ok (.aload_n 0, 1) := by decide +kernel
theorem dX0_halt_1 : decode cX0_halt 1 = .ok (.iconst 1, 1) := by decide +kernel
theorem dX0_halt_2 : decode cX0_halt 2 = .ok (.putfield 33, 3) := by decide +kernel
theorem dX0_halt_5 : decode cX0_halt 5 = .ok (.aload_n 0, 1) := by decide +kernel
theorem dX0_halt_6 : decode cX0_halt 6 = .ok (.aload_n 0, 1) := by decide +kernel
theorem dX0_halt_7 : decode cX0_halt 7 = .ok (.getfield 17, 3) := by decide +kernel
theorem dX0_halt_10 : decode cX0_halt 10 = .ok (.iconst 2, 1) := by decide +kernel
theorem dX0_halt_11 : decode cX0_halt 11 = .ok (.invokevirtual 81, 3) := by decide +kernel
theorem dX0_halt_14 : decode cX0_halt 14 = .ok (.return_, 1) := by decide +kernel
theorem dX0_trap_0 : decode cX0_trap 0 = .ok (.aload_n 0, 1) := by decide +kernel
theorem dX0_trap_1 : decode cX0_trap 1 = .ok (.iconst 2, 1) := by decide +kernel
theorem dX0_trap_2 : decode cX0_trap 2 = .ok (.putfield 33, 3) := by decide +kernel
theorem dX0_trap_5 : decode cX0_trap 5 = .ok (.return_, 1) := by decide +kernel
theorem dX0_fault_0 : decode cX0_fault 0 = .ok (.aload_n 0, 1) := by decide +kernel
theorem dX0_fault_1 : decode cX0_fault 1 = .ok (.iconst 3, 1) := by decide +kernel
theorem dX0_fault_2 : decode cX0_fault 2 = .ok (.putfield 33, 3) := by decide +kernel
theorem dX0_fault_5 : decode cX0_fault 5 = .ok (.return_, 1) := by decide +kernel
theorem dX0_finish_0 : decode cX0_finish 0 = .ok (.aload_n 0, 1) := by decide +kernel
theorem dX0_finish_1 : decode cX0_finish 1 = .ok (.iload_n 1, 1) := by decide +kernel
theorem dX0_finish_2 : decode cX0_finish 2 = .ok (.putfield 17, 3) := by decide +kernel
theorem dX0_finish_5 : decode cX0_finish 5 = .ok (.aload_n 0, 1) := by decide +kernel
theorem dX0_finish_6 : decode cX0_finish 6 = .ok (.dup, 1) := by decide +kernel
theorem dX0_finish_7 : decode cX0_finish 7 = .ok (.getfield 36, 3) := by decide +kernel
theorem dX0_finish_10 : decode cX0_finish 10 = .ok (.iload_n 2, 1) := by decide +kernel
theorem dX0_finish_11 : decode cX0_finish 11 = .ok (.iadd, 1) := by decide +kernel
theorem dX0_finish_12 : decode cX0_finish 12 = .ok (.putfield 36, 3) := by decide +kernel
theorem dX0_finish_15 : decode cX0_finish 15 = .ok (.aload_n 0, 1) := by decide +kernel
theorem dX0_finish_16 : decode cX0_finish 16 = .ok (.dup, 1) := by decide +kernel
theorem dX0_finish_17 : decode cX0_finish 17 = .ok (.getfield 39, 3) := by decide +kernel
theorem dX0_finish_20 : decode cX0_finish 20 = .ok (.iconst 1, 1) := by decide +kernel
theorem dX0_finish_21 : decode cX0_finish 21 = .ok (.iadd, 1) := by decide +kernel
theorem dX0_finish_22 : decode cX0_finish 22 = .ok (.putfield 39, 3) := by decide +kernel
theorem dX0_finish_25 : decode cX0_finish 25 = .ok (.return_, 1) := by decide +kernel
theorem dX0_isWord_0 : decode cX0_isWord 0 = .ok (.iload_n 0, 1) := by decide +kernel
theorem dX0_isWord_1 : decode cX0_isWord 1 = .ok (.ifCond .lt 14, 3) := by decide +kernel
theorem dX0_isWord_4 : decode cX0_isWord 4 = .ok (.iload_n 0, 1) := by decide +kernel
theorem dX0_isWord_5 : decode cX0_isWord 5 = .ok (.sipush 256, 3) := by decide +kernel
theorem dX0_isWord_8 : decode cX0_isWord 8 = .ok (.if_icmp .ge 7, 3) := by decide +kernel
theorem dX0_isWord_11 : decode cX0_isWord 11 = .ok (.iconst 1, 1) := by decide +kernel
theorem dX0_isWord_12 : decode cX0_isWord 12 = .ok (.goto 4, 3) := by decide +kernel
theorem dX0_isWord_15 : decode cX0_isWord 15 = .ok (.iconst 0, 1) := by decide +kernel
theorem dX0_isWord_16 : decode cX0_isWord 16 = .ok (.ireturn, 1) := by decide +kernel
theorem dX0_areBytes_0 : decode cX0_areBytes 0 = .ok (.iload_n 0, 1) := by decide +kernel
theorem dX0_areBytes_1 : decode cX0_areBytes 1 = .ok (.ifCond .lt 16, 3) := by decide +kernel
theorem dX0_areBytes_4 : decode cX0_areBytes 4 = .ok (.iload_n 0, 1) := by decide +kernel
theorem dX0_areBytes_5 : decode cX0_areBytes 5 = .ok (.sipush 512, 3) := by decide +kernel
theorem dX0_areBytes_8 : decode cX0_areBytes 8 = .ok (.iload_n 1, 1) := by decide +kernel
theorem dX0_areBytes_9 : decode cX0_areBytes 9 = .ok (.isub, 1) := by decide +kernel
theorem dX0_areBytes_10 : decode cX0_areBytes 10 = .ok (.if_icmp .gt 7, 3) := by decide +kernel
theorem dX0_areBytes_13 : decode cX0_areBytes 13 = .ok (.iconst 1, 1) := by decide +kernel
theorem dX0_areBytes_14 : decode cX0_areBytes 14 = .ok (.goto 4, 3) := by decide +kernel
theorem dX0_areBytes_17 : decode cX0_areBytes 17 = .ok (.iconst 0, 1) := by decide +kernel
theorem dX0_areBytes_18 : decode cX0_areBytes 18 = .ok (.ireturn, 1) := by decide +kernel
theorem dX0_unsignedByte_0 : decode cX0_unsignedByte 0 = .ok (.aload_n 0, 1) := by decide +kernel
theorem dX0_unsignedByte_1 : decode cX0_unsignedByte 1 = .ok (.getfield 13, 3) := by decide +kernel
theorem dX0_unsignedByte_4 : decode cX0_unsignedByte 4 = .ok (.iload_n 1, 1) := by decide +kernel
theorem dX0_unsignedByte_5 : decode cX0_unsignedByte 5 = .ok (.baload, 1) := by decide +kernel
theorem dX0_unsignedByte_6 : decode cX0_unsignedByte 6 = .ok (.sipush 255, 3) := by decide +kernel
theorem dX0_unsignedByte_9 : decode cX0_unsignedByte 9 = .ok (.iand, 1) := by decide +kernel
theorem dX0_unsignedByte_10 : decode cX0_unsignedByte 10 = .ok (.ireturn, 1) := by decide +kernel
theorem dX0_unsignedPair_0 : decode cX0_unsignedPair 0 = .ok (.aload_n 0, 1) := by decide +kernel
theorem dX0_unsignedPair_1 : decode cX0_unsignedPair 1 = .ok (.iload_n 1, 1) := by decide +kernel
theorem dX0_unsignedPair_2 : decode cX0_unsignedPair 2 = .ok (.invokevirtual 77, 3) := by decide +kernel
theorem dX0_unsignedPair_5 : decode cX0_unsignedPair 5 = .ok (.bipush 8, 2) := by decide +kernel
theorem dX0_unsignedPair_7 : decode cX0_unsignedPair 7 = .ok (.ishl, 1) := by decide +kernel
theorem dX0_unsignedPair_8 : decode cX0_unsignedPair 8 = .ok (.aload_n 0, 1) := by decide +kernel
theorem dX0_unsignedPair_9 : decode cX0_unsignedPair 9 = .ok (.iload_n 1, 1) := by decide +kernel
theorem dX0_unsignedPair_10 : decode cX0_unsignedPair 10 = .ok (.iconst 1, 1) := by decide +kernel
theorem dX0_unsignedPair_11 : decode cX0_unsignedPair 11 = .ok (.iadd, 1) := by decide +kernel
theorem dX0_unsignedPair_12 : decode cX0_unsignedPair 12 = .ok (.invokevirtual 77, 3) := by decide +kernel
theorem dX0_unsignedPair_15 : decode cX0_unsignedPair 15 = .ok (.ior, 1) := by decide +kernel
theorem dX0_unsignedPair_16 : decode cX0_unsignedPair 16 = .ok (.ireturn, 1) := by decide +kernel
theorem dX0_signedPair_0 : decode cX0_signedPair 0 = .ok (.aload_n 0, 1) := by decide +kernel
theorem dX0_signedPair_1 : decode cX0_signedPair 1 = .ok (.getfield 13, 3) := by decide +kernel
theorem dX0_signedPair_4 : decode cX0_signedPair 4 = .ok (.iload_n 1, 1) := by decide +kernel
theorem dX0_signedPair_5 : decode cX0_signedPair 5 = .ok (.baload, 1) := by decide +kernel
theorem dX0_signedPair_6 : decode cX0_signedPair 6 = .ok (.bipush 8, 2) := by decide +kernel
theorem dX0_signedPair_8 : decode cX0_signedPair 8 = .ok (.ishl, 1) := by decide +kernel
theorem dX0_signedPair_9 : decode cX0_signedPair 9 = .ok (.aload_n 0, 1) := by decide +kernel
theorem dX0_signedPair_10 : decode cX0_signedPair 10 = .ok (.iload_n 1, 1) := by decide +kernel
theorem dX0_signedPair_11 : decode cX0_signedPair 11 = .ok (.iconst 1, 1) := by decide +kernel
theorem dX0_signedPair_12 : decode cX0_signedPair 12 = .ok (.iadd, 1) := by decide +kernel
theorem dX0_signedPair_13 : decode cX0_signedPair 13 = .ok (.invokevirtual 77, 3) := by decide +kernel
theorem dX0_signedPair_16 : decode cX0_signedPair 16 = .ok (.ior, 1) := by decide +kernel
theorem dX0_signedPair_17 : decode cX0_signedPair 17 = .ok (.ireturn, 1) := by decide +kernel
end
section
theorem dX1_init_0 : decode cX1_init 0 = .ok (.aload_n 0, 1) := by decide +kernel
theorem dX1_init_1 : decode cX1_init 1 = .ok (.invokespecial 1, 3) := by decide +kernel
theorem dX1_init_4 : decode cX1_init 4 = .ok (.aload_n 0, 1) := by decide +kernel
theorem dX1_init_5 : decode cX1_init 5 = .ok (.sipush 256, 3) := by decide +kernel
theorem dX1_init_8 : decode cX1_init 8 = .ok (.newarray .int, 2) := by decide +kernel
theorem dX1_init_10 : decode cX1_init 10 = .ok (.putfield 7, 3) := by decide +kernel
theorem dX1_init_13 : decode cX1_init 13 = .ok (.aload_n 0, 1) := by decide +kernel
theorem dX1_init_14 : decode cX1_init 14 = .ok (.sipush 512, 3) := by decide +kernel
theorem dX1_init_17 : decode cX1_init 17 = .ok (.newarray .int, 2) := by decide +kernel
theorem dX1_init_19 : decode cX1_init 19 = .ok (.putfield 13, 3) := by decide +kernel
theorem dX1_init_22 : decode cX1_init 22 = .ok (.aload_n 0, 1) := by decide +kernel
theorem dX1_init_23 : decode cX1_init 23 = .ok (.bipush 8, 2) := by decide +kernel
theorem dX1_init_25 : decode cX1_init 25 = .ok (.newarray .int, 2) := by decide +kernel
theorem dX1_init_27 : decode cX1_init 27 = .ok (.putfield 16, 3) := by decide +kernel
theorem dX1_init_30 : decode cX1_init 30 = .ok (.aload_n 0, 1) := by decide +kernel
theorem dX1_init_31 : decode cX1_init 31 = .ok (.bipush 8, 2) := by decide +kernel
theorem dX1_init_33 : decode cX1_init 33 = .ok (.newarray .int, 2) := by decide +kernel
theorem dX1_init_35 : decode cX1_init 35 = .ok (.putfield 19, 3) := by decide +kernel
theorem dX1_init_38 : decode cX1_init 38 = .ok (.return_, 1) := by decide +kernel
theorem dX1_thrown_0 : decode cX1_thrown 0 = .ok (.aload_n 0, 1) := by decide +kernel
theorem dX1_thrown_1 : decode cX1_thrown 1 = .ok (.getfield 22, 3) := by decide +kernel
theorem dX1_thrown_4 : decode cX1_thrown 4 = .ok (.ireturn, 1) := by decide +kernel
theorem dX1_isWord_0 : decode cX1_isWord 0 = .ok (.iload_n 0, 1) := by decide +kernel
theorem dX1_isWord_1 : decode cX1_isWord 1 = .ok (.ifCond .lt 14, 3) := by decide +kernel
theorem dX1_isWord_4 : decode cX1_isWord 4 = .ok (.iload_n 0, 1) := by decide +kernel
theorem dX1_isWord_5 : decode cX1_isWord 5 = .ok (.sipush 256, 3) := by decide +kernel
theorem dX1_isWord_8 : decode cX1_isWord 8 = .ok (.if_icmp .ge 7, 3) := by decide +kernel
theorem dX1_isWord_11 : decode cX1_isWord 11 = .ok (.iconst 1, 1) := by decide +kernel
theorem dX1_isWord_12 : decode cX1_isWord 12 = .ok (.goto 4, 3) := by decide +kernel
theorem dX1_isWord_15 : decode cX1_isWord 15 = .ok (.iconst 0, 1) := by decide +kernel
theorem dX1_isWord_16 : decode cX1_isWord 16 = .ok (.ireturn, 1) := by decide +kernel
theorem dX1_word_0 : decode cX1_word 0 = .ok (.aload_n 0, 1) := by decide +kernel
theorem dX1_word_1 : decode cX1_word 1 = .ok (.iload_n 1, 1) := by decide +kernel
theorem dX1_word_2 : decode cX1_word 2 = .ok (.invokestatic 26, 3) := by decide +kernel
theorem dX1_word_5 : decode cX1_word 5 = .ok (.ifCond .eq 7, 3) := by decide +kernel
theorem dX1_word_8 : decode cX1_word 8 = .ok (.iconst 0, 1) := by decide +kernel
theorem dX1_word_9 : decode cX1_word 9 = .ok (.goto 4, 3) := by decide +kernel
theorem dX1_word_12 : decode cX1_word 12 = .ok (.iconst 1, 1) := by decide +kernel
theorem dX1_word_13 : decode cX1_word 13 = .ok (.putfield 22, 3) := by decide +kernel
theorem dX1_word_16 : decode cX1_word 16 = .ok (.aload_n 0, 1) := by decide +kernel
theorem dX1_word_17 : decode cX1_word 17 = .ok (.getfield 22, 3) := by decide +kernel
theorem dX1_word_20 : decode cX1_word 20 = .ok (.ifCond .ne 10, 3) := by decide +kernel
theorem dX1_word_23 : decode cX1_word 23 = .ok (.aload_n 0, 1) := by decide +kernel
theorem dX1_word_24 : decode cX1_word 24 = .ok (.getfield 7, 3) := by decide +kernel
theorem dX1_word_27 : decode cX1_word 27 = .ok (.iload_n 1, 1) := by decide +kernel
theorem dX1_word_28 : decode cX1_word 28 = .ok (.iload_n 2, 1) := by decide +kernel
theorem dX1_word_29 : decode cX1_word 29 = .ok (.iastore, 1) := by decide +kernel
theorem dX1_word_30 : decode cX1_word 30 = .ok (.return_, 1) := by decide +kernel
theorem dX1_code_0 : decode cX1_code 0 = .ok (.aload_n 0, 1) := by decide +kernel
theorem dX1_code_1 : decode cX1_code 1 = .ok (.iload_n 1, 1) := by decide +kernel
theorem dX1_code_2 : decode cX1_code 2 = .ok (.ifCond .lt 14, 3) := by decide +kernel
theorem dX1_code_5 : decode cX1_code 5 = .ok (.iload_n 1, 1) := by decide +kernel
theorem dX1_code_6 : decode cX1_code 6 = .ok (.sipush 508, 3) := by decide +kernel
theorem dX1_code_9 : decode cX1_code 9 = .ok (.if_icmp .gt 7, 3) := by decide +kernel
theorem dX1_code_12 : decode cX1_code 12 = .ok (.iconst 0, 1) := by decide +kernel
theorem dX1_code_13 : decode cX1_code 13 = .ok (.goto 4, 3) := by decide +kernel
theorem dX1_code_16 : decode cX1_code 16 = .ok (.iconst 1, 1) := by decide +kernel
theorem dX1_code_17 : decode cX1_code 17 = .ok (.putfield 22, 3) := by decide +kernel
theorem dX1_code_20 : decode cX1_code 20 = .ok (.iconst 0, 1) := by decide +kernel
theorem dX1_code_21 : decode cX1_code 21 = .ok (.istore_n 3, 1) := by decide +kernel
theorem dX1_code_22 : decode cX1_code 22 = .ok (.iload_n 3, 1) := by decide +kernel
theorem dX1_code_23 : decode cX1_code 23 = .ok (.iconst 4, 1) := by decide +kernel
theorem dX1_code_24 : decode cX1_code 24 = .ok (.if_icmp .ge 34, 3) := by decide +kernel
theorem dX1_code_27 : decode cX1_code 27 = .ok (.aload_n 0, 1) := by decide +kernel
theorem dX1_code_28 : decode cX1_code 28 = .ok (.getfield 22, 3) := by decide +kernel
theorem dX1_code_31 : decode cX1_code 31 = .ok (.ifCond .ne 27, 3) := by decide +kernel
theorem dX1_code_34 : decode cX1_code 34 = .ok (.aload_n 0, 1) := by decide +kernel
theorem dX1_code_35 : decode cX1_code 35 = .ok (.getfield 13, 3) := by decide +kernel
theorem dX1_code_38 : decode cX1_code 38 = .ok (.iload_n 1, 1) := by decide +kernel
theorem dX1_code_39 : decode cX1_code 39 = .ok (.iload_n 3, 1) := by decide +kernel
theorem dX1_code_40 : decode cX1_code 40 = .ok (.iadd, 1) := by decide +kernel
theorem dX1_code_41 : decode cX1_code 41 = .ok (.iload_n 2, 1) := by decide +kernel
theorem dX1_code_42 : decode cX1_code 42 = .ok (.bipush 8, 2) := by decide +kernel
theorem dX1_code_44 : decode cX1_code 44 = .ok (.iload_n 3, 1) := by decide +kernel
theorem dX1_code_45 : decode cX1_code 45 = .ok (.imul, 1) := by decide +kernel
theorem dX1_code_46 : decode cX1_code 46 = .ok (.ishr, 1) := by decide +kernel
theorem dX1_code_47 : decode cX1_code 47 = .ok (.sipush 255, 3) := by decide +kernel
theorem dX1_code_50 : decode cX1_code 50 = .ok (.iand, 1) := by decide +kernel
theorem dX1_code_51 : decode cX1_code 51 = .ok (.iastore, 1) := by decide +kernel
theorem dX1_code_52 : decode cX1_code 52 = .ok (.iinc 3 1, 3) := by decide +kernel
theorem dX1_code_55 : decode cX1_code 55 = .ok (.goto (-33), 3) := by decide +kernel
theorem dX1_code_58 : decode cX1_code 58 = .ok (.return_, 1) := by decide +kernel
theorem dX1_boot_0 : decode cX1_boot 0 = .ok (.aload_n 0, 1) := by decide +kernel
theorem dX1_boot_1 : decode cX1_boot 1 = .ok (.iconst 0, 1) := by decide +kernel
theorem dX1_boot_2 : decode cX1_boot 2 = .ok (.putfield 22, 3) := by decide +kernel
theorem dX1_boot_5 : decode cX1_boot 5 = .ok (.aload_n 0, 1) := by decide +kernel
theorem dX1_boot_6 : decode cX1_boot 6 = .ok (.iload_n 1, 1) := by decide +kernel
theorem dX1_boot_7 : decode cX1_boot 7 = .ok (.putfield 30, 3) := by decide +kernel
theorem dX1_boot_10 : decode cX1_boot 10 = .ok (.aload_n 0, 1) := by decide +kernel
theorem dX1_boot_11 : decode cX1_boot 11 = .ok (.iload_n 2, 1) := by decide +kernel
theorem dX1_boot_12 : decode cX1_boot 12 = .ok (.putfield 33, 3) := by decide +kernel
theorem dX1_boot_15 : decode cX1_boot 15 = .ok (.aload_n 0, 1) := by decide +kernel
theorem dX1_boot_16 : decode cX1_boot 16 = .ok (.iload_n 3, 1) := by decide +kernel
theorem dX1_boot_17 : decode cX1_boot 17 = .ok (.putfield 36, 3) := by decide +kernel
theorem dX1_boot_20 : decode cX1_boot 20 = .ok (.aload_n 0, 1) := by decide +kernel
theorem dX1_boot_21 : decode cX1_boot 21 = .ok (.iload 4, 2) := by decide +kernel
theorem dX1_boot_23 : decode cX1_boot 23 = .ok (.putfield 39, 3) := by decide +kernel
theorem dX1_boot_26 : decode cX1_boot 26 = .ok (.aload_n 0, 1) := by decide +kernel
theorem dX1_boot_27 : decode cX1_boot 27 = .ok (.aload_n 0, 1) := by decide +kernel
theorem dX1_boot_28 : decode cX1_boot 28 = .ok (.getfield 33, 3) := by decide +kernel
theorem dX1_boot_31 : decode cX1_boot 31 = .ok (.invokestatic 26, 3) := by decide +kernel
theorem dX1_boot_34 : decode cX1_boot 34 = .ok (.ifCond .eq 15, 3) := by decide +kernel
theorem dX1_boot_37 : decode cX1_boot 37 = .ok (.aload_n 0, 1) := by decide +kernel
theorem dX1_boot_38 : decode cX1_boot 38 = .ok (.getfield 7, 3) := by decide +kernel
theorem dX1_boot_41 : decode cX1_boot 41 = .ok (.aload_n 0, 1) := by decide +kernel
theorem dX1_boot_42 : decode cX1_boot 42 = .ok (.getfield 33, 3) := by decide +kernel
theorem dX1_boot_45 : decode cX1_boot 45 = .ok (.iaload, 1) := by decide +kernel
theorem dX1_boot_46 : decode cX1_boot 46 = .ok (.goto 4, 3) := by decide +kernel
theorem dX1_boot_49 : decode cX1_boot 49 = .ok (.iconst 0, 1) := by decide +kernel
theorem dX1_boot_50 : decode cX1_boot 50 = .ok (.putfield 42, 3) := by decide +kernel
theorem dX1_boot_53 : decode cX1_boot 53 = .ok (.aload_n 0, 1) := by decide +kernel
theorem dX1_boot_54 : decode cX1_boot 54 = .ok (.iconst 0, 1) := by decide +kernel
theorem dX1_boot_55 : decode cX1_boot 55 = .ok (.putfield 45, 3) := by decide +kernel
theorem dX1_boot_58 : decode cX1_boot 58 = .ok (.aload_n 0, 1) := by decide +kernel
theorem dX1_boot_59 : decode cX1_boot 59 = .ok (.iconst 0, 1) := by decide +kernel
theorem dX1_boot_60 : decode cX1_boot 60 = .ok (.putfield 48, 3) := by decide +kernel
theorem dX1_boot_63 : decode cX1_boot 63 = .ok (.aload_n 0, 1) := by decide +kernel
theorem dX1_boot_64 : decode cX1_boot 64 = .ok (.iconst 0, 1) := by decide +kernel
theorem dX1_boot_65 : decode cX1_boot 65 = .ok (.putfield 51, 3) := by decide +kernel
theorem dX1_boot_68 : decode cX1_boot 68 = .ok (.return_, 1) := by decide +kernel
theorem dX1_read_0 : decode cX1_read 0 = .ok (.aload_n 0, 1) := by decide +kernel
theorem dX1_read_1 : decode cX1_read 1 = .ok (.aload_n 0, 1) := by decide +kernel
theorem dX1_read_2 : decode cX1_read 2 = .ok (.getfield 54, 3) := by decide +kernel
theorem dX1_read_5 : decode cX1_read 5 = .ok (.ifCond .ne 10, 3) := by decide +kernel
theorem dX1_read_8 : decode cX1_read 8 = .ok (.iload_n 1, 1) := by decide +kernel
theorem dX1_read_9 : decode cX1_read 9 = .ok (.invokestatic 26, 3) := by decide +kernel
theorem dX1_read_12 : decode cX1_read 12 = .ok (.ifCond .ne 7, 3) := by decide +kernel
theorem dX1_read_15 : decode cX1_read 15 = .ok (.iconst 1, 1) := by decide +kernel
theorem dX1_read_16 : decode cX1_read 16 = .ok (.goto 4, 3) := by decide +kernel
theorem dX1_read_19 : decode cX1_read 19 = .ok (.iconst 0, 1) := by decide +kernel
theorem dX1_read_20 : decode cX1_read 20 = .ok (.putfield 54, 3) := by decide +kernel
theorem dX1_read_23 : decode cX1_read 23 = .ok (.iload_n 1, 1) := by decide +kernel
theorem dX1_read_24 : decode cX1_read 24 = .ok (.invokestatic 26, 3) := by decide +kernel
theorem dX1_read_27 : decode cX1_read 27 = .ok (.ifCond .eq 12, 3) := by decide +kernel
theorem dX1_read_30 : decode cX1_read 30 = .ok (.aload_n 0, 1) := by decide +kernel
theorem dX1_read_31 : decode cX1_read 31 = .ok (.getfield 7, 3) := by decide +kernel
theorem dX1_read_34 : decode cX1_read 34 = .ok (.iload_n 1, 1) := by decide +kernel
theorem dX1_read_35 : decode cX1_read 35 = .ok (.iaload, 1) := by decide +kernel
theorem dX1_read_36 : decode cX1_read 36 = .ok (.goto 4, 3) := by decide +kernel
theorem dX1_read_39 : decode cX1_read 39 = .ok (.iconst 0, 1) := by decide +kernel
theorem dX1_read_40 : decode cX1_read 40 = .ok (.ireturn, 1) := by decide +kernel
theorem dX1_write_0 : decode cX1_write 0 = .ok (.aload_n 0, 1) := by decide +kernel
theorem dX1_write_1 : decode cX1_write 1 = .ok (.aload_n 0, 1) := by decide +kernel
theorem dX1_write_2 : decode cX1_write 2 = .ok (.getfield 54, 3) := by decide +kernel
theorem dX1_write_5 : decode cX1_write 5 = .ok (.ifCond .ne 10, 3) := by decide +kernel
theorem dX1_write_8 : decode cX1_write 8 = .ok (.iload_n 1, 1) := by decide +kernel
theorem dX1_write_9 : decode cX1_write 9 = .ok (.invokestatic 26, 3) := by decide +kernel
theorem dX1_write_12 : decode cX1_write 12 = .ok (.ifCond .ne 7, 3) := by decide +kernel
theorem dX1_write_15 : decode cX1_write 15 = .ok (.iconst 1, 1) := by decide +kernel
theorem dX1_write_16 : decode cX1_write 16 = .ok (.goto 4, 3) := by decide +kernel
theorem dX1_write_19 : decode cX1_write 19 = .ok (.iconst 0, 1) := by decide +kernel
theorem dX1_write_20 : decode cX1_write 20 = .ok (.putfield 54, 3) := by decide +kernel
theorem dX1_write_23 : decode cX1_write 23 = .ok (.iload_n 1, 1) := by decide +kernel
theorem dX1_write_24 : decode cX1_write 24 = .ok (.invokestatic 26, 3) := by decide +kernel
theorem dX1_write_27 : decode cX1_write 27 = .ok (.ifCond .ne 4, 3) := by decide +kernel
theorem dX1_write_30 : decode cX1_write 30 = .ok (.return_, 1) := by decide +kernel
theorem dX1_write_31 : decode cX1_write 31 = .ok (.aload_n 0, 1) := by decide +kernel
theorem dX1_write_32 : decode cX1_write 32 = .ok (.getfield 16, 3) := by decide +kernel
theorem dX1_write_35 : decode cX1_write 35 = .ok (.aload_n 0, 1) := by decide +kernel
theorem dX1_write_36 : decode cX1_write 36 = .ok (.getfield 58, 3) := by decide +kernel
theorem dX1_write_39 : decode cX1_write 39 = .ok (.iload_n 1, 1) := by decide +kernel
theorem dX1_write_40 : decode cX1_write 40 = .ok (.iastore, 1) := by decide +kernel
theorem dX1_write_41 : decode cX1_write 41 = .ok (.aload_n 0, 1) := by decide +kernel
theorem dX1_write_42 : decode cX1_write 42 = .ok (.getfield 19, 3) := by decide +kernel
theorem dX1_write_45 : decode cX1_write 45 = .ok (.aload_n 0, 1) := by decide +kernel
theorem dX1_write_46 : decode cX1_write 46 = .ok (.getfield 58, 3) := by decide +kernel
theorem dX1_write_49 : decode cX1_write 49 = .ok (.aload_n 0, 1) := by decide +kernel
theorem dX1_write_50 : decode cX1_write 50 = .ok (.getfield 7, 3) := by decide +kernel
theorem dX1_write_53 : decode cX1_write 53 = .ok (.iload_n 1, 1) := by decide +kernel
theorem dX1_write_54 : decode cX1_write 54 = .ok (.iaload, 1) := by decide +kernel
theorem dX1_write_55 : decode cX1_write 55 = .ok (.iastore, 1) := by decide +kernel
theorem dX1_write_56 : decode cX1_write 56 = .ok (.aload_n 0, 1) := by decide +kernel
theorem dX1_write_57 : decode cX1_write 57 = .ok (.dup, 1) := by decide +kernel
theorem dX1_write_58 : decode cX1_write 58 = .ok (.getfield 58, 3) := by decide +kernel
theorem dX1_write_61 : decode cX1_write 61 = .ok (.iconst 1, 1) := by decide +kernel
theorem dX1_write_62 : decode cX1_write 62 = .ok (.iadd, 1) := by decide +kernel
theorem dX1_write_63 : decode cX1_write 63 = .ok (.putfield 58, 3) := by decide +kernel
theorem dX1_write_66 : decode cX1_write 66 = .ok (.aload_n 0, 1) := by decide +kernel
theorem dX1_write_67 : decode cX1_write 67 = .ok (.getfield 7, 3) := by decide +kernel
theorem dX1_write_70 : decode cX1_write 70 = .ok (.iload_n 1, 1) := by decide +kernel
theorem dX1_write_71 : decode cX1_write 71 = .ok (.iload_n 2, 1) := by decide +kernel
theorem dX1_write_72 : decode cX1_write 72 = .ok (.iastore, 1) := by decide +kernel
theorem dX1_write_73 : decode cX1_write 73 = .ok (.return_, 1) := by decide +kernel
theorem dX1_byteAt_0 : decode cX1_byteAt 0 = .ok (.iload_n 1, 1) := by decide +kernel
theorem dX1_byteAt_1 : decode cX1_byteAt 1 = .ok (.ifCond .lt 14, 3) := by decide +kernel
theorem dX1_byteAt_4 : decode cX1_byteAt 4 = .ok (.iload_n 1, 1) := by decide +kernel
theorem dX1_byteAt_5 : decode cX1_byteAt 5 = .ok (.sipush 512, 3) := by decide +kernel
theorem dX1_byteAt_8 : decode cX1_byteAt 8 = .ok (.if_icmp .ge 7, 3) := by decide +kernel
theorem dX1_byteAt_11 : decode cX1_byteAt 11 = .ok (.iconst 1, 1) := by decide +kernel
theorem dX1_byteAt_12 : decode cX1_byteAt 12 = .ok (.goto 4, 3) := by decide +kernel
theorem dX1_byteAt_15 : decode cX1_byteAt 15 = .ok (.iconst 0, 1) := by decide +kernel
theorem dX1_byteAt_16 : decode cX1_byteAt 16 = .ok (.istore_n 2, 1) := by decide +kernel
theorem dX1_byteAt_17 : decode cX1_byteAt 17 = .ok (.aload_n 0, 1) := by decide +kernel
theorem dX1_byteAt_18 : decode cX1_byteAt 18 = .ok (.aload_n 0, 1) := by decide +kernel
theorem dX1_byteAt_19 : decode cX1_byteAt 19 = .ok (.getfield 54, 3) := by decide +kernel
theorem dX1_byteAt_22 : decode cX1_byteAt 22 = .ok (.ifCond .ne 7, 3) := by decide +kernel
theorem dX1_byteAt_25 : decode cX1_byteAt 25 = .ok (.iload_n 2, 1) := by decide +kernel
theorem dX1_byteAt_26 : decode cX1_byteAt 26 = .ok (.ifCond .ne 7, 3) := by decide +kernel
theorem dX1_byteAt_29 : decode cX1_byteAt 29 = .ok (.iconst 1, 1) := by decide +kernel
theorem dX1_byteAt_30 : decode cX1_byteAt 30 = .ok (.goto 4, 3) := by decide +kernel
theorem dX1_byteAt_33 : decode cX1_byteAt 33 = .ok (.iconst 0, 1) := by decide +kernel
theorem dX1_byteAt_34 : decode cX1_byteAt 34 = .ok (.putfield 54, 3) := by decide +kernel
theorem dX1_byteAt_37 : decode cX1_byteAt 37 = .ok (.iload_n 2, 1) := by decide +kernel
theorem dX1_byteAt_38 : decode cX1_byteAt 38 = .ok (.ifCond .eq 12, 3) := by decide +kernel
theorem dX1_byteAt_41 : decode cX1_byteAt 41 = .ok (.aload_n 0, 1) := by decide +kernel
theorem dX1_byteAt_42 : decode cX1_byteAt 42 = .ok (.getfield 13, 3) := by decide +kernel
theorem dX1_byteAt_45 : decode cX1_byteAt 45 = .ok (.iload_n 1, 1) := by decide +kernel
theorem dX1_byteAt_46 : decode cX1_byteAt 46 = .ok (.iaload, 1) := by decide +kernel
theorem dX1_byteAt_47 : decode cX1_byteAt 47 = .ok (.goto 4, 3) := by decide +kernel
theorem dX1_byteAt_50 : decode cX1_byteAt 50 = .ok (.iconst 0, 1) := by decide +kernel
theorem dX1_byteAt_51 : decode cX1_byteAt 51 = .ok (.ireturn, 1) := by decide +kernel
theorem dX1_pair_0 : decode cX1_pair 0 = .ok (.aload_n 0, 1) := by decide +kernel
theorem dX1_pair_1 : decode cX1_pair 1 = .ok (.iload_n 1, 1) := by decide +kernel
theorem dX1_pair_2 : decode cX1_pair 2 = .ok (.invokevirtual 61, 3) := by decide +kernel
theorem dX1_pair_5 : decode cX1_pair 5 = .ok (.istore_n 2, 1) := by decide +kernel
theorem dX1_pair_6 : decode cX1_pair 6 = .ok (.iload_n 2, 1) := by decide +kernel
theorem dX1_pair_7 : decode cX1_pair 7 = .ok (.sipush 256, 3) := by decide +kernel
theorem dX1_pair_10 : decode cX1_pair 10 = .ok (.imul, 1) := by decide +kernel
theorem dX1_pair_11 : decode cX1_pair 11 = .ok (.aload_n 0, 1) := by decide +kernel
theorem dX1_pair_12 : decode cX1_pair 12 = .ok (.iload_n 1, 1) := by decide +kernel
theorem dX1_pair_13 : decode cX1_pair 13 = .ok (.iconst 1, 1) := by decide +kernel
theorem dX1_pair_14 : decode cX1_pair 14 = .ok (.iadd, 1) := by decide +kernel
theorem dX1_pair_15 : decode cX1_pair 15 = .ok (.invokevirtual 61, 3) := by decide +kernel
theorem dX1_pair_18 : decode cX1_pair 18 = .ok (.iadd, 1) := by decide +kernel
theorem dX1_pair_19 : decode cX1_pair 19 = .ok (.ireturn, 1) := by decide +kernel
theorem dX1_signed_0 : decode cX1_signed 0 = .ok (.iload_n 0, 1) := by decide +kernel
theorem dX1_signed_1 : decode cX1_signed 1 = .ok (.bipush 32, 2) := by decide +kernel
theorem dX1_signed_3 : decode cX1_signed 3 = .ok (.iload_n 1, 1) := by decide +kernel
theorem dX1_signed_4 : decode cX1_signed 4 = .ok (.isub, 1) := by decide +kernel
theorem dX1_signed_5 : decode cX1_signed 5 = .ok (.ishl, 1) := by decide +kernel
theorem dX1_signed_6 : decode cX1_signed 6 = .ok (.bipush 32, 2) := by decide +kernel
theorem dX1_signed_8 : decode cX1_signed 8 = .ok (.iload_n 1, 1) := by decide +kernel
theorem dX1_signed_9 : decode cX1_signed 9 = .ok (.isub, 1) := by decide +kernel
theorem dX1_signed_10 : decode cX1_signed 10 = .ok (.ishr, 1) := by decide +kernel
theorem dX1_signed_11 : decode cX1_signed 11 = .ok (.ireturn, 1) := by decide +kernel
theorem dX1_reckon_0 : decode cX1_reckon 0 = .ok (.aload_n 0, 1) := by decide +kernel
theorem dX1_reckon_1 : decode cX1_reckon 1 = .ok (.dup, 1) := by decide +kernel
theorem dX1_reckon_2 : decode cX1_reckon 2 = .ok (.getfield 33, 3) := by decide +kernel
theorem dX1_reckon_5 : decode cX1_reckon 5 = .ok (.iconst 1, 1) := by decide +kernel
theorem dX1_reckon_6 : decode cX1_reckon 6 = .ok (.isub, 1) := by decide +kernel
theorem dX1_reckon_7 : decode cX1_reckon 7 = .ok (.putfield 33, 3) := by decide +kernel
theorem dX1_reckon_10 : decode cX1_reckon 10 = .ok (.aload_n 0, 1) := by decide +kernel
theorem dX1_reckon_11 : decode cX1_reckon 11 = .ok (.aload_n 0, 1) := by decide +kernel
theorem dX1_reckon_12 : decode cX1_reckon 12 = .ok (.getfield 33, 3) := by decide +kernel
theorem dX1_reckon_15 : decode cX1_reckon 15 = .ok (.invokevirtual 65, 3) := by decide +kernel
theorem dX1_reckon_18 : decode cX1_reckon 18 = .ok (.istore_n 2, 1) := by decide +kernel
theorem dX1_reckon_19 : decode cX1_reckon 19 = .ok (.aload_n 0, 1) := by decide +kernel
theorem dX1_reckon_20 : decode cX1_reckon 20 = .ok (.iload_n 1, 1) := by decide +kernel
theorem dX1_reckon_21 : decode cX1_reckon 21 = .ok (.bipush 96, 2) := by decide +kernel
theorem dX1_reckon_23 : decode cX1_reckon 23 = .ok (.if_icmp .ne 12, 3) := by decide +kernel
theorem dX1_reckon_26 : decode cX1_reckon 26 = .ok (.iload_n 2, 1) := by decide +kernel
theorem dX1_reckon_27 : decode cX1_reckon 27 = .ok (.aload_n 0, 1) := by decide +kernel
theorem dX1_reckon_28 : decode cX1_reckon 28 = .ok (.getfield 42, 3) := by decide +kernel
theorem dX1_reckon_31 : decode cX1_reckon 31 = .ok (.iadd, 1) := by decide +kernel
theorem dX1_reckon_32 : decode cX1_reckon 32 = .ok (.goto 39, 3) := by decide +kernel
theorem dX1_reckon_35 : decode cX1_reckon 35 = .ok (.iload_n 1, 1) := by decide +kernel
theorem dX1_reckon_36 : decode cX1_reckon 36 = .ok (.bipush 100, 2) := by decide +kernel
theorem dX1_reckon_38 : decode cX1_reckon 38 = .ok (.if_icmp .ne 12, 3) := by decide +kernel
theorem dX1_reckon_41 : decode cX1_reckon 41 = .ok (.iload_n 2, 1) := by decide +kernel
theorem dX1_reckon_42 : decode cX1_reckon 42 = .ok (.aload_n 0, 1) := by decide +kernel
theorem dX1_reckon_43 : decode cX1_reckon 43 = .ok (.getfield 42, 3) := by decide +kernel
theorem dX1_reckon_46 : decode cX1_reckon 46 = .ok (.isub, 1) := by decide +kernel
theorem dX1_reckon_47 : decode cX1_reckon 47 = .ok (.goto 24, 3) := by decide +kernel
theorem dX1_reckon_50 : decode cX1_reckon 50 = .ok (.iload_n 1, 1) := by decide +kernel
theorem dX1_reckon_51 : decode cX1_reckon 51 = .ok (.bipush 126, 2) := by decide +kernel
theorem dX1_reckon_53 : decode cX1_reckon 53 = .ok (.if_icmp .ne 12, 3) := by decide +kernel
theorem dX1_reckon_56 : decode cX1_reckon 56 = .ok (.iload_n 2, 1) := by decide +kernel
theorem dX1_reckon_57 : decode cX1_reckon 57 = .ok (.aload_n 0, 1) := by decide +kernel
theorem dX1_reckon_58 : decode cX1_reckon 58 = .ok (.getfield 42, 3) := by decide +kernel
theorem dX1_reckon_61 : decode cX1_reckon 61 = .ok (.iand, 1) := by decide +kernel
theorem dX1_reckon_62 : decode cX1_reckon 62 = .ok (.goto 9, 3) := by decide +kernel
theorem dX1_reckon_65 : decode cX1_reckon 65 = .ok (.iload_n 2, 1) := by decide +kernel
theorem dX1_reckon_66 : decode cX1_reckon 66 = .ok (.aload_n 0, 1) := by decide +kernel
theorem dX1_reckon_67 : decode cX1_reckon 67 = .ok (.getfield 42, 3) := by decide +kernel
theorem dX1_reckon_70 : decode cX1_reckon 70 = .ok (.ior, 1) := by decide +kernel
theorem dX1_reckon_71 : decode cX1_reckon 71 = .ok (.putfield 42, 3) := by decide +kernel
theorem dX1_reckon_74 : decode cX1_reckon 74 = .ok (.aload_n 0, 1) := by decide +kernel
theorem dX1_reckon_75 : decode cX1_reckon 75 = .ok (.aload_n 0, 1) := by decide +kernel
theorem dX1_reckon_76 : decode cX1_reckon 76 = .ok (.getfield 33, 3) := by decide +kernel
theorem dX1_reckon_79 : decode cX1_reckon 79 = .ok (.aload_n 0, 1) := by decide +kernel
theorem dX1_reckon_80 : decode cX1_reckon 80 = .ok (.getfield 42, 3) := by decide +kernel
theorem dX1_reckon_83 : decode cX1_reckon 83 = .ok (.invokevirtual 68, 3) := by decide +kernel
theorem dX1_reckon_86 : decode cX1_reckon 86 = .ok (.iconst 4, 1) := by decide +kernel
theorem dX1_reckon_87 : decode cX1_reckon 87 = .ok (.ireturn, 1) := by decide +kernel
theorem dX1_push_0 : decode cX1_push 0 = .ok (.aload_n 0, 1) := by decide +kernel
theorem dX1_push_1 : decode cX1_push 1 = .ok (.dup, 1) := by decide +kernel
theorem dX1_push_2 : decode cX1_push 2 = .ok (.getfield 33, 3) := by decide +kernel
theorem dX1_push_5 : decode cX1_push 5 = .ok (.iconst 1, 1) := by decide +kernel
theorem dX1_push_6 : decode cX1_push 6 = .ok (.iadd, 1) := by decide +kernel
theorem dX1_push_7 : decode cX1_push 7 = .ok (.putfield 33, 3) := by decide +kernel
theorem dX1_push_10 : decode cX1_push 10 = .ok (.aload_n 0, 1) := by decide +kernel
theorem dX1_push_11 : decode cX1_push 11 = .ok (.iload_n 1, 1) := by decide +kernel
theorem dX1_push_12 : decode cX1_push 12 = .ok (.putfield 42, 3) := by decide +kernel
theorem dX1_push_15 : decode cX1_push 15 = .ok (.aload_n 0, 1) := by decide +kernel
theorem dX1_push_16 : decode cX1_push 16 = .ok (.aload_n 0, 1) := by decide +kernel
theorem dX1_push_17 : decode cX1_push 17 = .ok (.getfield 33, 3) := by decide +kernel
theorem dX1_push_20 : decode cX1_push 20 = .ok (.aload_n 0, 1) := by decide +kernel
theorem dX1_push_21 : decode cX1_push 21 = .ok (.getfield 42, 3) := by decide +kernel
theorem dX1_push_24 : decode cX1_push 24 = .ok (.invokevirtual 68, 3) := by decide +kernel
theorem dX1_push_27 : decode cX1_push 27 = .ok (.aload_n 0, 1) := by decide +kernel
theorem dX1_push_28 : decode cX1_push 28 = .ok (.aload_n 0, 1) := by decide +kernel
theorem dX1_push_29 : decode cX1_push 29 = .ok (.getfield 30, 3) := by decide +kernel
theorem dX1_push_32 : decode cX1_push 32 = .ok (.iload_n 2, 1) := by decide +kernel
theorem dX1_push_33 : decode cX1_push 33 = .ok (.iadd, 1) := by decide +kernel
theorem dX1_push_34 : decode cX1_push 34 = .ok (.putfield 72, 3) := by decide +kernel
theorem dX1_push_37 : decode cX1_push 37 = .ok (.iload_n 3, 1) := by decide +kernel
theorem dX1_push_38 : decode cX1_push 38 = .ok (.ireturn, 1) := by decide +kernel
theorem dX1_store_0 : decode cX1_store 0 = .ok (.aload_n 0, 1) := by decide +kernel
theorem dX1_store_1 : decode cX1_store 1 = .ok (.iload_n 1, 1) := by decide +kernel
theorem dX1_store_2 : decode cX1_store 2 = .ok (.aload_n 0, 1) := by decide +kernel
theorem dX1_store_3 : decode cX1_store 3 = .ok (.getfield 42, 3) := by decide +kernel
theorem dX1_store_6 : decode cX1_store 6 = .ok (.invokevirtual 68, 3) := by decide +kernel
theorem dX1_store_9 : decode cX1_store 9 = .ok (.aload_n 0, 1) := by decide +kernel
theorem dX1_store_10 : decode cX1_store 10 = .ok (.dup, 1) := by decide +kernel
theorem dX1_store_11 : decode cX1_store 11 = .ok (.getfield 33, 3) := by decide +kernel
theorem dX1_store_14 : decode cX1_store 14 = .ok (.iconst 1, 1) := by decide +kernel
theorem dX1_store_15 : decode cX1_store 15 = .ok (.isub, 1) := by decide +kernel
theorem dX1_store_16 : decode cX1_store 16 = .ok (.putfield 33, 3) := by decide +kernel
theorem dX1_store_19 : decode cX1_store 19 = .ok (.aload_n 0, 1) := by decide +kernel
theorem dX1_store_20 : decode cX1_store 20 = .ok (.aload_n 0, 1) := by decide +kernel
theorem dX1_store_21 : decode cX1_store 21 = .ok (.aload_n 0, 1) := by decide +kernel
theorem dX1_store_22 : decode cX1_store 22 = .ok (.getfield 33, 3) := by decide +kernel
theorem dX1_store_25 : decode cX1_store 25 = .ok (.invokevirtual 65, 3) := by decide +kernel
theorem dX1_store_28 : decode cX1_store 28 = .ok (.putfield 42, 3) := by decide +kernel
theorem dX1_store_31 : decode cX1_store 31 = .ok (.aload_n 0, 1) := by decide +kernel
theorem dX1_store_32 : decode cX1_store 32 = .ok (.aload_n 0, 1) := by decide +kernel
theorem dX1_store_33 : decode cX1_store 33 = .ok (.getfield 30, 3) := by decide +kernel
theorem dX1_store_36 : decode cX1_store 36 = .ok (.iload_n 2, 1) := by decide +kernel
theorem dX1_store_37 : decode cX1_store 37 = .ok (.iadd, 1) := by decide +kernel
theorem dX1_store_38 : decode cX1_store 38 = .ok (.putfield 72, 3) := by decide +kernel
theorem dX1_store_41 : decode cX1_store 41 = .ok (.iload_n 3, 1) := by decide +kernel
theorem dX1_store_42 : decode cX1_store 42 = .ok (.ireturn, 1) := by decide +kernel
theorem dX1_swap_0 : decode cX1_swap 0 = .ok (.aload_n 0, 1) := by decide +kernel
theorem dX1_swap_1 : decode cX1_swap 1 = .ok (.aload_n 0, 1) := by decide +kernel
theorem dX1_swap_2 : decode cX1_swap 2 = .ok (.getfield 33, 3) := by decide +kernel
theorem dX1_swap_5 : decode cX1_swap 5 = .ok (.iconst 1, 1) := by decide +kernel
theorem dX1_swap_6 : decode cX1_swap 6 = .ok (.isub, 1) := by decide +kernel
theorem dX1_swap_7 : decode cX1_swap 7 = .ok (.invokevirtual 65, 3) := by decide +kernel
theorem dX1_swap_10 : decode cX1_swap 10 = .ok (.istore_n 1, 1) := by decide +kernel
theorem dX1_swap_11 : decode cX1_swap 11 = .ok (.aload_n 0, 1) := by decide +kernel
theorem dX1_swap_12 : decode cX1_swap 12 = .ok (.aload_n 0, 1) := by decide +kernel
theorem dX1_swap_13 : decode cX1_swap 13 = .ok (.getfield 33, 3) := by decide +kernel
theorem dX1_swap_16 : decode cX1_swap 16 = .ok (.iload_n 1, 1) := by decide +kernel
theorem dX1_swap_17 : decode cX1_swap 17 = .ok (.invokevirtual 68, 3) := by decide +kernel
theorem dX1_swap_20 : decode cX1_swap 20 = .ok (.aload_n 0, 1) := by decide +kernel
theorem dX1_swap_21 : decode cX1_swap 21 = .ok (.aload_n 0, 1) := by decide +kernel
theorem dX1_swap_22 : decode cX1_swap 22 = .ok (.getfield 33, 3) := by decide +kernel
theorem dX1_swap_25 : decode cX1_swap 25 = .ok (.iconst 1, 1) := by decide +kernel
theorem dX1_swap_26 : decode cX1_swap 26 = .ok (.isub, 1) := by decide +kernel
theorem dX1_swap_27 : decode cX1_swap 27 = .ok (.aload_n 0, 1) := by decide +kernel
theorem dX1_swap_28 : decode cX1_swap 28 = .ok (.getfield 42, 3) := by decide +kernel
theorem dX1_swap_31 : decode cX1_swap 31 = .ok (.invokevirtual 68, 3) := by decide +kernel
theorem dX1_swap_34 : decode cX1_swap 34 = .ok (.aload_n 0, 1) := by decide +kernel
theorem dX1_swap_35 : decode cX1_swap 35 = .ok (.iload_n 1, 1) := by decide +kernel
theorem dX1_swap_36 : decode cX1_swap 36 = .ok (.putfield 42, 3) := by decide +kernel
theorem dX1_swap_39 : decode cX1_swap 39 = .ok (.bipush 7, 2) := by decide +kernel
theorem dX1_swap_41 : decode cX1_swap 41 = .ok (.ireturn, 1) := by decide +kernel
theorem dX1_wide_0 : decode cX1_wide 0 = .ok (.aload_n 0, 1) := by decide +kernel
theorem dX1_wide_1 : decode cX1_wide 1 = .ok (.aload_n 0, 1) := by decide +kernel
theorem dX1_wide_2 : decode cX1_wide 2 = .ok (.getfield 30, 3) := by decide +kernel
theorem dX1_wide_5 : decode cX1_wide 5 = .ok (.iconst 1, 1) := by decide +kernel
theorem dX1_wide_6 : decode cX1_wide 6 = .ok (.iadd, 1) := by decide +kernel
theorem dX1_wide_7 : decode cX1_wide 7 = .ok (.invokevirtual 61, 3) := by decide +kernel
theorem dX1_wide_10 : decode cX1_wide 10 = .ok (.istore_n 1, 1) := by decide +kernel
theorem dX1_wide_11 : decode cX1_wide 11 = .ok (.aload_n 0, 1) := by decide +kernel
theorem dX1_wide_12 : decode cX1_wide 12 = .ok (.aload_n 0, 1) := by decide +kernel
theorem dX1_wide_13 : decode cX1_wide 13 = .ok (.getfield 54, 3) := by decide +kernel
theorem dX1_wide_16 : decode cX1_wide 16 = .ok (.ifCond .ne 19, 3) := by decide +kernel
theorem dX1_wide_19 : decode cX1_wide 19 = .ok (.iload_n 1, 1) := by decide +kernel
theorem dX1_wide_20 : decode cX1_wide 20 = .ok (.bipush 21, 2) := by decide +kernel
theorem dX1_wide_22 : decode cX1_wide 22 = .ok (.if_icmp .eq 13, 3) := by decide +kernel
theorem dX1_wide_25 : decode cX1_wide 25 = .ok (.iload_n 1, 1) := by decide +kernel
theorem dX1_wide_26 : decode cX1_wide 26 = .ok (.bipush 54, 2) := by decide +kernel
theorem dX1_wide_28 : decode cX1_wide 28 = .ok (.if_icmp .eq 7, 3) := by decide +kernel
theorem dX1_wide_31 : decode cX1_wide 31 = .ok (.iconst 1, 1) := by decide +kernel
theorem dX1_wide_32 : decode cX1_wide 32 = .ok (.goto 4, 3) := by decide +kernel
theorem dX1_wide_35 : decode cX1_wide 35 = .ok (.iconst 0, 1) := by decide +kernel
theorem dX1_wide_36 : decode cX1_wide 36 = .ok (.putfield 75, 3) := by decide +kernel
theorem dX1_wide_39 : decode cX1_wide 39 = .ok (.aload_n 0, 1) := by decide +kernel
theorem dX1_wide_40 : decode cX1_wide 40 = .ok (.getfield 54, 3) := by decide +kernel
theorem dX1_wide_43 : decode cX1_wide 43 = .ok (.ifCond .ne 10, 3) := by decide +kernel
theorem dX1_wide_46 : decode cX1_wide 46 = .ok (.aload_n 0, 1) := by decide +kernel
theorem dX1_wide_47 : decode cX1_wide 47 = .ok (.getfield 75, 3) := by decide +kernel
theorem dX1_wide_50 : decode cX1_wide 50 = .ok (.ifCond .eq 5, 3) := by decide +kernel
theorem dX1_wide_53 : decode cX1_wide 53 = .ok (.iconst 0, 1) := by decide +kernel
theorem dX1_wide_54 : decode cX1_wide 54 = .ok (.ireturn, 1) := by decide +kernel
theorem dX1_wide_55 : decode cX1_wide 55 = .ok (.aload_n 0, 1) := by decide +kernel
theorem dX1_wide_56 : decode cX1_wide 56 = .ok (.getfield 36, 3) := by decide +kernel
theorem dX1_wide_59 : decode cX1_wide 59 = .ok (.aload_n 0, 1) := by decide +kernel
theorem dX1_wide_60 : decode cX1_wide 60 = .ok (.aload_n 0, 1) := by decide +kernel
theorem dX1_wide_61 : decode cX1_wide 61 = .ok (.getfield 30, 3) := by decide +kernel
theorem dX1_wide_64 : decode cX1_wide 64 = .ok (.iconst 2, 1) := by decide +kernel
theorem dX1_wide_65 : decode cX1_wide 65 = .ok (.iadd, 1) := by decide +kernel
theorem dX1_wide_66 : decode cX1_wide 66 = .ok (.invokevirtual 78, 3) := by decide +kernel
theorem dX1_wide_69 : decode cX1_wide 69 = .ok (.iadd, 1) := by decide +kernel
theorem dX1_wide_70 : decode cX1_wide 70 = .ok (.istore_n 2, 1) := by decide +kernel
theorem dX1_wide_71 : decode cX1_wide 71 = .ok (.iload_n 1, 1) := by decide +kernel
theorem dX1_wide_72 : decode cX1_wide 72 = .ok (.bipush 21, 2) := by decide +kernel
theorem dX1_wide_74 : decode cX1_wide 74 = .ok (.if_icmp .ne 18, 3) := by decide +kernel
theorem dX1_wide_77 : decode cX1_wide 77 = .ok (.aload_n 0, 1) := by decide +kernel
theorem dX1_wide_78 : decode cX1_wide 78 = .ok (.aload_n 0, 1) := by decide +kernel
theorem dX1_wide_79 : decode cX1_wide 79 = .ok (.iload_n 2, 1) := by decide +kernel
theorem dX1_wide_80 : decode cX1_wide 80 = .ok (.invokevirtual 65, 3) := by decide +kernel
theorem dX1_wide_83 : decode cX1_wide 83 = .ok (.iconst 4, 1) := by decide +kernel
theorem dX1_wide_84 : decode cX1_wide 84 = .ok (.bipush 10, 2) := by decide +kernel
theorem dX1_wide_86 : decode cX1_wide 86 = .ok (.invokevirtual 81, 3) := by decide +kernel
theorem dX1_wide_89 : decode cX1_wide 89 = .ok (.goto 11, 3) := by decide +kernel
theorem dX1_wide_92 : decode cX1_wide 92 = .ok (.aload_n 0, 1) := by decide +kernel
theorem dX1_wide_93 : decode cX1_wide 93 = .ok (.iload_n 2, 1) := by decide +kernel
theorem dX1_wide_94 : decode cX1_wide 94 = .ok (.iconst 4, 1) := by decide +kernel
theorem dX1_wide_95 : decode cX1_wide 95 = .ok (.bipush 11, 2) := by decide +kernel
theorem dX1_wide_97 : decode cX1_wide 97 = .ok (.invokevirtual 85, 3) := by decide +kernel
theorem dX1_wide_100 : decode cX1_wide 100 = .ok (.ireturn, 1) := by decide +kernel
theorem dX1_increase_0 : decode cX1_increase 0 = .ok (.aload_n 0, 1) := by decide +kernel
theorem dX1_increase_1 : decode cX1_increase 1 = .ok (.getfield 36, 3) := by decide +kernel
theorem dX1_increase_4 : decode cX1_increase 4 = .ok (.aload_n 0, 1) := by decide +kernel
theorem dX1_increase_5 : decode cX1_increase 5 = .ok (.aload_n 0, 1) := by decide +kernel
theorem dX1_increase_6 : decode cX1_increase 6 = .ok (.getfield 30, 3) := by decide +kernel
theorem dX1_increase_9 : decode cX1_increase 9 = .ok (.iconst 1, 1) := by decide +kernel
theorem dX1_increase_10 : decode cX1_increase 10 = .ok (.iadd, 1) := by decide +kernel
theorem dX1_increase_11 : decode cX1_increase 11 = .ok (.invokevirtual 61, 3) := by decide +kernel
theorem dX1_increase_14 : decode cX1_increase 14 = .ok (.iadd, 1) := by decide +kernel
theorem dX1_increase_15 : decode cX1_increase 15 = .ok (.istore_n 1, 1) := by decide +kernel
theorem dX1_increase_16 : decode cX1_increase 16 = .ok (.aload_n 0, 1) := by decide +kernel
theorem dX1_increase_17 : decode cX1_increase 17 = .ok (.aload_n 0, 1) := by decide +kernel
theorem dX1_increase_18 : decode cX1_increase 18 = .ok (.getfield 30, 3) := by decide +kernel
theorem dX1_increase_21 : decode cX1_increase 21 = .ok (.iconst 2, 1) := by decide +kernel
theorem dX1_increase_22 : decode cX1_increase 22 = .ok (.iadd, 1) := by decide +kernel
theorem dX1_increase_23 : decode cX1_increase 23 = .ok (.invokevirtual 61, 3) := by decide +kernel
theorem dX1_increase_26 : decode cX1_increase 26 = .ok (.bipush 8, 2) := by decide +kernel
theorem dX1_increase_28 : decode cX1_increase 28 = .ok (.invokestatic 88, 3) := by decide +kernel
theorem dX1_increase_31 : decode cX1_increase 31 = .ok (.istore_n 2, 1) := by decide +kernel
theorem dX1_increase_32 : decode cX1_increase 32 = .ok (.aload_n 0, 1) := by decide +kernel
theorem dX1_increase_33 : decode cX1_increase 33 = .ok (.iload_n 1, 1) := by decide +kernel
theorem dX1_increase_34 : decode cX1_increase 34 = .ok (.aload_n 0, 1) := by decide +kernel
theorem dX1_increase_35 : decode cX1_increase 35 = .ok (.iload_n 1, 1) := by decide +kernel
theorem dX1_increase_36 : decode cX1_increase 36 = .ok (.invokevirtual 65, 3) := by decide +kernel
theorem dX1_increase_39 : decode cX1_increase 39 = .ok (.iload_n 2, 1) := by decide +kernel
theorem dX1_increase_40 : decode cX1_increase 40 = .ok (.iadd, 1) := by decide +kernel
theorem dX1_increase_41 : decode cX1_increase 41 = .ok (.invokevirtual 68, 3) := by decide +kernel
theorem dX1_increase_44 : decode cX1_increase 44 = .ok (.aload_n 0, 1) := by decide +kernel
theorem dX1_increase_45 : decode cX1_increase 45 = .ok (.aload_n 0, 1) := by decide +kernel
theorem dX1_increase_46 : decode cX1_increase 46 = .ok (.getfield 30, 3) := by decide +kernel
theorem dX1_increase_49 : decode cX1_increase 49 = .ok (.iconst 3, 1) := by decide +kernel
theorem dX1_increase_50 : decode cX1_increase 50 = .ok (.iadd, 1) := by decide +kernel
theorem dX1_increase_51 : decode cX1_increase 51 = .ok (.putfield 72, 3) := by decide +kernel
theorem dX1_increase_54 : decode cX1_increase 54 = .ok (.bipush 7, 2) := by decide +kernel
theorem dX1_increase_56 : decode cX1_increase 56 = .ok (.ireturn, 1) := by decide +kernel
theorem dX1_jump_0 : decode cX1_jump 0 = .ok (.aload_n 0, 1) := by decide +kernel
theorem dX1_jump_1 : decode cX1_jump 1 = .ok (.iload_n 1, 1) := by decide +kernel
theorem dX1_jump_2 : decode cX1_jump 2 = .ok (.ifCond .eq 26, 3) := by decide +kernel
theorem dX1_jump_5 : decode cX1_jump 5 = .ok (.aload_n 0, 1) := by decide +kernel
theorem dX1_jump_6 : decode cX1_jump 6 = .ok (.getfield 30, 3) := by decide +kernel
theorem dX1_jump_9 : decode cX1_jump 9 = .ok (.aload_n 0, 1) := by decide +kernel
theorem dX1_jump_10 : decode cX1_jump 10 = .ok (.aload_n 0, 1) := by decide +kernel
theorem dX1_jump_11 : decode cX1_jump 11 = .ok (.getfield 30, 3) := by decide +kernel
theorem dX1_jump_14 : decode cX1_jump 14 = .ok (.iconst 1, 1) := by decide +kernel
theorem dX1_jump_15 : decode cX1_jump 15 = .ok (.iadd, 1) := by decide +kernel
theorem dX1_jump_16 : decode cX1_jump 16 = .ok (.invokevirtual 78, 3) := by decide +kernel
theorem dX1_jump_19 : decode cX1_jump 19 = .ok (.bipush 16, 2) := by decide +kernel
theorem dX1_jump_21 : decode cX1_jump 21 = .ok (.invokestatic 88, 3) := by decide +kernel
theorem dX1_jump_24 : decode cX1_jump 24 = .ok (.iadd, 1) := by decide +kernel
theorem dX1_jump_25 : decode cX1_jump 25 = .ok (.goto 9, 3) := by decide +kernel
theorem dX1_jump_28 : decode cX1_jump 28 = .ok (.aload_n 0, 1) := by decide +kernel
theorem dX1_jump_29 : decode cX1_jump 29 = .ok (.getfield 30, 3) := by decide +kernel
theorem dX1_jump_32 : decode cX1_jump 32 = .ok (.iconst 3, 1) := by decide +kernel
theorem dX1_jump_33 : decode cX1_jump 33 = .ok (.iadd, 1) := by decide +kernel
theorem dX1_jump_34 : decode cX1_jump 34 = .ok (.putfield 72, 3) := by decide +kernel
theorem dX1_jump_37 : decode cX1_jump 37 = .ok (.iload_n 1, 1) := by decide +kernel
theorem dX1_jump_38 : decode cX1_jump 38 = .ok (.ifCond .eq 7, 3) := by decide +kernel
theorem dX1_jump_41 : decode cX1_jump 41 = .ok (.iload_n 2, 1) := by decide +kernel
theorem dX1_jump_42 : decode cX1_jump 42 = .ok (.goto 4, 3) := by decide +kernel
theorem dX1_jump_45 : decode cX1_jump 45 = .ok (.iload_n 3, 1) := by decide +kernel
theorem dX1_jump_46 : decode cX1_jump 46 = .ok (.ireturn, 1) := by decide +kernel
theorem dX1_ifs_0 : decode cX1_ifs 0 = .ok (.aload_n 0, 1) := by decide +kernel
theorem dX1_ifs_1 : decode cX1_ifs 1 = .ok (.getfield 42, 3) := by decide +kernel
theorem dX1_ifs_4 : decode cX1_ifs 4 = .ok (.istore_n 2, 1) := by decide +kernel
theorem dX1_ifs_5 : decode cX1_ifs 5 = .ok (.iload_n 1, 1) := by decide +kernel
theorem dX1_ifs_6 : decode cX1_ifs 6 = .ok (.sipush 159, 3) := by decide +kernel
theorem dX1_ifs_9 : decode cX1_ifs 9 = .ok (.if_icmp .ne 16, 3) := by decide +kernel
theorem dX1_ifs_12 : decode cX1_ifs 12 = .ok (.aload_n 0, 1) := by decide +kernel
theorem dX1_ifs_13 : decode cX1_ifs 13 = .ok (.aload_n 0, 1) := by decide +kernel
theorem dX1_ifs_14 : decode cX1_ifs 14 = .ok (.getfield 33, 3) := by decide +kernel
theorem dX1_ifs_17 : decode cX1_ifs 17 = .ok (.iconst 1, 1) := by decide +kernel
theorem dX1_ifs_18 : decode cX1_ifs 18 = .ok (.isub, 1) := by decide +kernel
theorem dX1_ifs_19 : decode cX1_ifs 19 = .ok (.invokevirtual 65, 3) := by decide +kernel
theorem dX1_ifs_22 : decode cX1_ifs 22 = .ok (.goto 4, 3) := by decide +kernel
theorem dX1_ifs_25 : decode cX1_ifs 25 = .ok (.iconst 0, 1) := by decide +kernel
theorem dX1_ifs_26 : decode cX1_ifs 26 = .ok (.istore_n 3, 1) := by decide +kernel
theorem dX1_ifs_27 : decode cX1_ifs 27 = .ok (.aload_n 0, 1) := by decide +kernel
theorem dX1_ifs_28 : decode cX1_ifs 28 = .ok (.dup, 1) := by decide +kernel
theorem dX1_ifs_29 : decode cX1_ifs 29 = .ok (.getfield 33, 3) := by decide +kernel
theorem dX1_ifs_32 : decode cX1_ifs 32 = .ok (.iload_n 1, 1) := by decide +kernel
theorem dX1_ifs_33 : decode cX1_ifs 33 = .ok (.sipush 159, 3) := by decide +kernel
theorem dX1_ifs_36 : decode cX1_ifs 36 = .ok (.if_icmp .ne 7, 3) := by decide +kernel
theorem dX1_ifs_39 : decode cX1_ifs 39 = .ok (.iconst 2, 1) := by decide +kernel
theorem dX1_ifs_40 : decode cX1_ifs 40 = .ok (.goto 4, 3) := by decide +kernel
theorem dX1_ifs_43 : decode cX1_ifs 43 = .ok (.iconst 1, 1) := by decide +kernel
theorem dX1_ifs_44 : decode cX1_ifs 44 = .ok (.isub, 1) := by decide +kernel
theorem dX1_ifs_45 : decode cX1_ifs 45 = .ok (.putfield 33, 3) := by decide +kernel
end
section
theorem dX1_ifs_48 : decode cX1_ifs 48 = .ok (.aload_n 0, 1) := by decide +kernel
theorem dX1_ifs_49 : decode cX1_ifs 49 = .ok (.aload_n 0, 1) := by decide +kernel
theorem dX1_ifs_50 : decode cX1_ifs 50 = .ok (.aload_n 0, 1) := by decide +kernel
theorem dX1_ifs_51 : decode cX1_ifs 51 = .ok (.getfield 33, 3) := by decide +kernel
theorem dX1_ifs_54 : decode cX1_ifs 54 = .ok (.invokevirtual 65, 3) := by decide +kernel
theorem dX1_ifs_57 : decode cX1_ifs 57 = .ok (.putfield 42, 3) := by decide +kernel
theorem dX1_ifs_60 : decode cX1_ifs 60 = .ok (.iload_n 1, 1) := by decide +kernel
theorem dX1_ifs_61 : decode cX1_ifs 61 = .ok (.sipush 159, 3) := by decide +kernel
theorem dX1_ifs_64 : decode cX1_ifs 64 = .ok (.if_icmp .ne 22, 3) := by decide +kernel
theorem dX1_ifs_67 : decode cX1_ifs 67 = .ok (.aload_n 0, 1) := by decide +kernel
theorem dX1_ifs_68 : decode cX1_ifs 68 = .ok (.iload_n 2, 1) := by decide +kernel
theorem dX1_ifs_69 : decode cX1_ifs 69 = .ok (.iload_n 3, 1) := by decide +kernel
theorem dX1_ifs_70 : decode cX1_ifs 70 = .ok (.if_icmp .ne 7, 3) := by decide +kernel
theorem dX1_ifs_73 : decode cX1_ifs 73 = .ok (.iconst 1, 1) := by decide +kernel
theorem dX1_ifs_74 : decode cX1_ifs 74 = .ok (.goto 4, 3) := by decide +kernel
theorem dX1_ifs_77 : decode cX1_ifs 77 = .ok (.iconst 0, 1) := by decide +kernel
theorem dX1_ifs_78 : decode cX1_ifs 78 = .ok (.bipush 13, 2) := by decide +kernel
theorem dX1_ifs_80 : decode cX1_ifs 80 = .ok (.bipush 10, 2) := by decide +kernel
theorem dX1_ifs_82 : decode cX1_ifs 82 = .ok (.invokevirtual 92, 3) := by decide +kernel
theorem dX1_ifs_85 : decode cX1_ifs 85 = .ok (.ireturn, 1) := by decide +kernel
theorem dX1_ifs_86 : decode cX1_ifs 86 = .ok (.aload_n 0, 1) := by decide +kernel
theorem dX1_ifs_87 : decode cX1_ifs 87 = .ok (.iload_n 1, 1) := by decide +kernel
theorem dX1_ifs_88 : decode cX1_ifs 88 = .ok (.sipush 155, 3) := by decide +kernel
theorem dX1_ifs_91 : decode cX1_ifs 91 = .ok (.if_icmp .ne 15, 3) := by decide +kernel
theorem dX1_ifs_94 : decode cX1_ifs 94 = .ok (.iload_n 2, 1) := by decide +kernel
theorem dX1_ifs_95 : decode cX1_ifs 95 = .ok (.ifCond .ge 7, 3) := by decide +kernel
theorem dX1_ifs_98 : decode cX1_ifs 98 = .ok (.iconst 1, 1) := by decide +kernel
theorem dX1_ifs_99 : decode cX1_ifs 99 = .ok (.goto 16, 3) := by decide +kernel
theorem dX1_ifs_102 : decode cX1_ifs 102 = .ok (.iconst 0, 1) := by decide +kernel
theorem dX1_ifs_103 : decode cX1_ifs 103 = .ok (.goto 12, 3) := by decide +kernel
theorem dX1_ifs_106 : decode cX1_ifs 106 = .ok (.iload_n 2, 1) := by decide +kernel
theorem dX1_ifs_107 : decode cX1_ifs 107 = .ok (.ifCond .ne 7, 3) := by decide +kernel
theorem dX1_ifs_110 : decode cX1_ifs 110 = .ok (.iconst 1, 1) := by decide +kernel
theorem dX1_ifs_111 : decode cX1_ifs 111 = .ok (.goto 4, 3) := by decide +kernel
theorem dX1_ifs_114 : decode cX1_ifs 114 = .ok (.iconst 0, 1) := by decide +kernel
theorem dX1_ifs_115 : decode cX1_ifs 115 = .ok (.bipush 11, 2) := by decide +kernel
theorem dX1_ifs_117 : decode cX1_ifs 117 = .ok (.bipush 8, 2) := by decide +kernel
theorem dX1_ifs_119 : decode cX1_ifs 119 = .ok (.invokevirtual 92, 3) := by decide +kernel
theorem dX1_ifs_122 : decode cX1_ifs 122 = .ok (.ireturn, 1) := by decide +kernel
theorem dX1_call_0 : decode cX1_call 0 = .ok (.aload_n 0, 1) := by decide +kernel
theorem dX1_call_1 : decode cX1_call 1 = .ok (.aload_n 0, 1) := by decide +kernel
theorem dX1_call_2 : decode cX1_call 2 = .ok (.getfield 39, 3) := by decide +kernel
theorem dX1_call_5 : decode cX1_call 5 = .ok (.aload_n 0, 1) := by decide +kernel
theorem dX1_call_6 : decode cX1_call 6 = .ok (.aload_n 0, 1) := by decide +kernel
theorem dX1_call_7 : decode cX1_call 7 = .ok (.getfield 30, 3) := by decide +kernel
theorem dX1_call_10 : decode cX1_call 10 = .ok (.iconst 1, 1) := by decide +kernel
theorem dX1_call_11 : decode cX1_call 11 = .ok (.iadd, 1) := by decide +kernel
theorem dX1_call_12 : decode cX1_call 12 = .ok (.invokevirtual 78, 3) := by decide +kernel
theorem dX1_call_15 : decode cX1_call 15 = .ok (.iadd, 1) := by decide +kernel
theorem dX1_call_16 : decode cX1_call 16 = .ok (.invokevirtual 65, 3) := by decide +kernel
theorem dX1_call_19 : decode cX1_call 19 = .ok (.istore_n 1, 1) := by decide +kernel
theorem dX1_call_20 : decode cX1_call 20 = .ok (.aload_n 0, 1) := by decide +kernel
theorem dX1_call_21 : decode cX1_call 21 = .ok (.iload_n 1, 1) := by decide +kernel
theorem dX1_call_22 : decode cX1_call 22 = .ok (.invokevirtual 78, 3) := by decide +kernel
theorem dX1_call_25 : decode cX1_call 25 = .ok (.istore_n 2, 1) := by decide +kernel
theorem dX1_call_26 : decode cX1_call 26 = .ok (.aload_n 0, 1) := by decide +kernel
theorem dX1_call_27 : decode cX1_call 27 = .ok (.iload_n 1, 1) := by decide +kernel
theorem dX1_call_28 : decode cX1_call 28 = .ok (.iconst 2, 1) := by decide +kernel
theorem dX1_call_29 : decode cX1_call 29 = .ok (.iadd, 1) := by decide +kernel
theorem dX1_call_30 : decode cX1_call 30 = .ok (.invokevirtual 78, 3) := by decide +kernel
theorem dX1_call_33 : decode cX1_call 33 = .ok (.istore_n 3, 1) := by decide +kernel
theorem dX1_call_34 : decode cX1_call 34 = .ok (.aload_n 0, 1) := by decide +kernel
theorem dX1_call_35 : decode cX1_call 35 = .ok (.getfield 33, 3) := by decide +kernel
theorem dX1_call_38 : decode cX1_call 38 = .ok (.iload_n 2, 1) := by decide +kernel
theorem dX1_call_39 : decode cX1_call 39 = .ok (.isub, 1) := by decide +kernel
theorem dX1_call_40 : decode cX1_call 40 = .ok (.iconst 1, 1) := by decide +kernel
theorem dX1_call_41 : decode cX1_call 41 = .ok (.iadd, 1) := by decide +kernel
theorem dX1_call_42 : decode cX1_call 42 = .ok (.istore 4, 2) := by decide +kernel
theorem dX1_call_44 : decode cX1_call 44 = .ok (.aload_n 0, 1) := by decide +kernel
theorem dX1_call_45 : decode cX1_call 45 = .ok (.getfield 33, 3) := by decide +kernel
theorem dX1_call_48 : decode cX1_call 48 = .ok (.iload_n 3, 1) := by decide +kernel
theorem dX1_call_49 : decode cX1_call 49 = .ok (.iadd, 1) := by decide +kernel
theorem dX1_call_50 : decode cX1_call 50 = .ok (.iconst 1, 1) := by decide +kernel
theorem dX1_call_51 : decode cX1_call 51 = .ok (.iadd, 1) := by decide +kernel
theorem dX1_call_52 : decode cX1_call 52 = .ok (.istore 5, 2) := by decide +kernel
theorem dX1_call_54 : decode cX1_call 54 = .ok (.aload_n 0, 1) := by decide +kernel
theorem dX1_call_55 : decode cX1_call 55 = .ok (.iload 4, 2) := by decide +kernel
theorem dX1_call_57 : decode cX1_call 57 = .ok (.iload 5, 2) := by decide +kernel
theorem dX1_call_59 : decode cX1_call 59 = .ok (.invokevirtual 68, 3) := by decide +kernel
theorem dX1_call_62 : decode cX1_call 62 = .ok (.aload_n 0, 1) := by decide +kernel
theorem dX1_call_63 : decode cX1_call 63 = .ok (.iload 5, 2) := by decide +kernel
theorem dX1_call_65 : decode cX1_call 65 = .ok (.aload_n 0, 1) := by decide +kernel
theorem dX1_call_66 : decode cX1_call 66 = .ok (.getfield 30, 3) := by decide +kernel
theorem dX1_call_69 : decode cX1_call 69 = .ok (.iconst 3, 1) := by decide +kernel
theorem dX1_call_70 : decode cX1_call 70 = .ok (.iadd, 1) := by decide +kernel
theorem dX1_call_71 : decode cX1_call 71 = .ok (.invokevirtual 68, 3) := by decide +kernel
theorem dX1_call_74 : decode cX1_call 74 = .ok (.aload_n 0, 1) := by decide +kernel
theorem dX1_call_75 : decode cX1_call 75 = .ok (.iload 5, 2) := by decide +kernel
theorem dX1_call_77 : decode cX1_call 77 = .ok (.iconst 1, 1) := by decide +kernel
theorem dX1_call_78 : decode cX1_call 78 = .ok (.iadd, 1) := by decide +kernel
theorem dX1_call_79 : decode cX1_call 79 = .ok (.putfield 33, 3) := by decide +kernel
theorem dX1_call_82 : decode cX1_call 82 = .ok (.aload_n 0, 1) := by decide +kernel
theorem dX1_call_83 : decode cX1_call 83 = .ok (.aload_n 0, 1) := by decide +kernel
theorem dX1_call_84 : decode cX1_call 84 = .ok (.getfield 33, 3) := by decide +kernel
theorem dX1_call_87 : decode cX1_call 87 = .ok (.aload_n 0, 1) := by decide +kernel
theorem dX1_call_88 : decode cX1_call 88 = .ok (.getfield 36, 3) := by decide +kernel
theorem dX1_call_91 : decode cX1_call 91 = .ok (.invokevirtual 68, 3) := by decide +kernel
theorem dX1_call_94 : decode cX1_call 94 = .ok (.aload_n 0, 1) := by decide +kernel
theorem dX1_call_95 : decode cX1_call 95 = .ok (.iload 4, 2) := by decide +kernel
theorem dX1_call_97 : decode cX1_call 97 = .ok (.putfield 36, 3) := by decide +kernel
theorem dX1_call_100 : decode cX1_call 100 = .ok (.aload_n 0, 1) := by decide +kernel
theorem dX1_call_101 : decode cX1_call 101 = .ok (.iload 4, 2) := by decide +kernel
theorem dX1_call_103 : decode cX1_call 103 = .ok (.putfield 42, 3) := by decide +kernel
theorem dX1_call_106 : decode cX1_call 106 = .ok (.aload_n 0, 1) := by decide +kernel
theorem dX1_call_107 : decode cX1_call 107 = .ok (.iload_n 1, 1) := by decide +kernel
theorem dX1_call_108 : decode cX1_call 108 = .ok (.iconst 4, 1) := by decide +kernel
theorem dX1_call_109 : decode cX1_call 109 = .ok (.iadd, 1) := by decide +kernel
theorem dX1_call_110 : decode cX1_call 110 = .ok (.putfield 72, 3) := by decide +kernel
theorem dX1_call_113 : decode cX1_call 113 = .ok (.bipush 23, 2) := by decide +kernel
theorem dX1_call_115 : decode cX1_call 115 = .ok (.ireturn, 1) := by decide +kernel
theorem dX1_giveBack_0 : decode cX1_giveBack 0 = .ok (.aload_n 0, 1) := by decide +kernel
theorem dX1_giveBack_1 : decode cX1_giveBack 1 = .ok (.aload_n 0, 1) := by decide +kernel
theorem dX1_giveBack_2 : decode cX1_giveBack 2 = .ok (.getfield 36, 3) := by decide +kernel
theorem dX1_giveBack_5 : decode cX1_giveBack 5 = .ok (.invokevirtual 65, 3) := by decide +kernel
theorem dX1_giveBack_8 : decode cX1_giveBack 8 = .ok (.istore_n 1, 1) := by decide +kernel
theorem dX1_giveBack_9 : decode cX1_giveBack 9 = .ok (.aload_n 0, 1) := by decide +kernel
theorem dX1_giveBack_10 : decode cX1_giveBack 10 = .ok (.aload_n 0, 1) := by decide +kernel
theorem dX1_giveBack_11 : decode cX1_giveBack 11 = .ok (.getfield 36, 3) := by decide +kernel
theorem dX1_giveBack_14 : decode cX1_giveBack 14 = .ok (.putfield 33, 3) := by decide +kernel
theorem dX1_giveBack_17 : decode cX1_giveBack 17 = .ok (.aload_n 0, 1) := by decide +kernel
theorem dX1_giveBack_18 : decode cX1_giveBack 18 = .ok (.aload_n 0, 1) := by decide +kernel
theorem dX1_giveBack_19 : decode cX1_giveBack 19 = .ok (.iload_n 1, 1) := by decide +kernel
theorem dX1_giveBack_20 : decode cX1_giveBack 20 = .ok (.invokevirtual 65, 3) := by decide +kernel
theorem dX1_giveBack_23 : decode cX1_giveBack 23 = .ok (.putfield 72, 3) := by decide +kernel
theorem dX1_giveBack_26 : decode cX1_giveBack 26 = .ok (.aload_n 0, 1) := by decide +kernel
theorem dX1_giveBack_27 : decode cX1_giveBack 27 = .ok (.aload_n 0, 1) := by decide +kernel
theorem dX1_giveBack_28 : decode cX1_giveBack 28 = .ok (.iload_n 1, 1) := by decide +kernel
theorem dX1_giveBack_29 : decode cX1_giveBack 29 = .ok (.iconst 1, 1) := by decide +kernel
theorem dX1_giveBack_30 : decode cX1_giveBack 30 = .ok (.iadd, 1) := by decide +kernel
theorem dX1_giveBack_31 : decode cX1_giveBack 31 = .ok (.invokevirtual 65, 3) := by decide +kernel
theorem dX1_giveBack_34 : decode cX1_giveBack 34 = .ok (.putfield 36, 3) := by decide +kernel
theorem dX1_giveBack_37 : decode cX1_giveBack 37 = .ok (.aload_n 0, 1) := by decide +kernel
theorem dX1_giveBack_38 : decode cX1_giveBack 38 = .ok (.aload_n 0, 1) := by decide +kernel
theorem dX1_giveBack_39 : decode cX1_giveBack 39 = .ok (.getfield 33, 3) := by decide +kernel
theorem dX1_giveBack_42 : decode cX1_giveBack 42 = .ok (.aload_n 0, 1) := by decide +kernel
theorem dX1_giveBack_43 : decode cX1_giveBack 43 = .ok (.getfield 42, 3) := by decide +kernel
theorem dX1_giveBack_46 : decode cX1_giveBack 46 = .ok (.invokevirtual 68, 3) := by decide +kernel
theorem dX1_giveBack_49 : decode cX1_giveBack 49 = .ok (.bipush 9, 2) := by decide +kernel
theorem dX1_giveBack_51 : decode cX1_giveBack 51 = .ok (.ireturn, 1) := by decide +kernel
theorem dX1_perform_0 : decode cX1_perform 0 = .ok (.aload_n 0, 1) := by decide +kernel
theorem dX1_perform_1 : decode cX1_perform 1 = .ok (.aload_n 0, 1) := by decide +kernel
theorem dX1_perform_2 : decode cX1_perform 2 = .ok (.getfield 30, 3) := by decide +kernel
theorem dX1_perform_5 : decode cX1_perform 5 = .ok (.iconst 1, 1) := by decide +kernel
theorem dX1_perform_6 : decode cX1_perform 6 = .ok (.iadd, 1) := by decide +kernel
theorem dX1_perform_7 : decode cX1_perform 7 = .ok (.putfield 72, 3) := by decide +kernel
theorem dX1_perform_10 : decode cX1_perform 10 = .ok (.iload_n 1, 1) := by decide +kernel
theorem dX1_perform_11 : decode cX1_perform 11 = .ok (.lookupswitch 370 #[(0, 177), (16, 225), (19, 302), (21, 247), (54, 274), (87, 196), (89, 185), (95, 220), (96, 179), (100, 179), (126, 179), (128, 179), (132, 329), (153, 344), (155, 344), (159, 344), (167, 334), (172, 355), (182, 350), (196, 297), (255, 360)], 177) := by decide +kernel
theorem dX1_perform_188 : decode cX1_perform 188 = .ok (.iconst 2, 1) := by decide +kernel
theorem dX1_perform_189 : decode cX1_perform 189 = .ok (.ireturn, 1) := by decide +kernel
theorem dX1_perform_190 : decode cX1_perform 190 = .ok (.aload_n 0, 1) := by decide +kernel
theorem dX1_perform_191 : decode cX1_perform 191 = .ok (.iload_n 1, 1) := by decide +kernel
theorem dX1_perform_192 : decode cX1_perform 192 = .ok (.invokevirtual 96, 3) := by decide +kernel
theorem dX1_perform_195 : decode cX1_perform 195 = .ok (.ireturn, 1) := by decide +kernel
theorem dX1_perform_196 : decode cX1_perform 196 = .ok (.aload_n 0, 1) := by decide +kernel
theorem dX1_perform_197 : decode cX1_perform 197 = .ok (.aload_n 0, 1) := by decide +kernel
theorem dX1_perform_198 : decode cX1_perform 198 = .ok (.getfield 42, 3) := by decide +kernel
theorem dX1_perform_201 : decode cX1_perform 201 = .ok (.iconst 1, 1) := by decide +kernel
theorem dX1_perform_202 : decode cX1_perform 202 = .ok (.iconst 3, 1) := by decide +kernel
theorem dX1_perform_203 : decode cX1_perform 203 = .ok (.invokevirtual 81, 3) := by decide +kernel
theorem dX1_perform_206 : decode cX1_perform 206 = .ok (.ireturn, 1) := by decide +kernel
theorem dX1_perform_207 : decode cX1_perform 207 = .ok (.aload_n 0, 1) := by decide +kernel
theorem dX1_perform_208 : decode cX1_perform 208 = .ok (.dup, 1) := by decide +kernel
theorem dX1_perform_209 : decode cX1_perform 209 = .ok (.getfield 33, 3) := by decide +kernel
theorem dX1_perform_212 : decode cX1_perform 212 = .ok (.iconst 1, 1) := by decide +kernel
theorem dX1_perform_213 : decode cX1_perform 213 = .ok (.isub, 1) := by decide +kernel
theorem dX1_perform_214 : decode cX1_perform 214 = .ok (.putfield 33, 3) := by decide +kernel
theorem dX1_perform_217 : decode cX1_perform 217 = .ok (.aload_n 0, 1) := by decide +kernel
theorem dX1_perform_218 : decode cX1_perform 218 = .ok (.aload_n 0, 1) := by decide +kernel
theorem dX1_perform_219 : decode cX1_perform 219 = .ok (.aload_n 0, 1) := by decide +kernel
theorem dX1_perform_220 : decode cX1_perform 220 = .ok (.getfield 33, 3) := by decide +kernel
theorem dX1_perform_223 : decode cX1_perform 223 = .ok (.invokevirtual 65, 3) := by decide +kernel
theorem dX1_perform_226 : decode cX1_perform 226 = .ok (.putfield 42, 3) := by decide +kernel
theorem dX1_perform_229 : decode cX1_perform 229 = .ok (.iconst 4, 1) := by decide +kernel
theorem dX1_perform_230 : decode cX1_perform 230 = .ok (.ireturn, 1) := by decide +kernel
theorem dX1_perform_231 : decode cX1_perform 231 = .ok (.aload_n 0, 1) := by decide +kernel
theorem dX1_perform_232 : decode cX1_perform 232 = .ok (.invokevirtual 99, 3) := by decide +kernel
theorem dX1_perform_235 : decode cX1_perform 235 = .ok (.ireturn, 1) := by decide +kernel
theorem dX1_perform_236 : decode cX1_perform 236 = .ok (.aload_n 0, 1) := by decide +kernel
theorem dX1_perform_237 : decode cX1_perform 237 = .ok (.aload_n 0, 1) := by decide +kernel
theorem dX1_perform_238 : decode cX1_perform 238 = .ok (.aload_n 0, 1) := by decide +kernel
theorem dX1_perform_239 : decode cX1_perform 239 = .ok (.getfield 30, 3) := by decide +kernel
theorem dX1_perform_242 : decode cX1_perform 242 = .ok (.iconst 1, 1) := by decide +kernel
theorem dX1_perform_243 : decode cX1_perform 243 = .ok (.iadd, 1) := by decide +kernel
theorem dX1_perform_244 : decode cX1_perform 244 = .ok (.invokevirtual 61, 3) := by decide +kernel
theorem dX1_perform_247 : decode cX1_perform 247 = .ok (.bipush 8, 2) := by decide +kernel
theorem dX1_perform_249 : decode cX1_perform 249 = .ok (.invokestatic 88, 3) := by decide +kernel
theorem dX1_perform_252 : decode cX1_perform 252 = .ok (.iconst 2, 1) := by decide +kernel
theorem dX1_perform_253 : decode cX1_perform 253 = .ok (.iconst 4, 1) := by decide +kernel
theorem dX1_perform_254 : decode cX1_perform 254 = .ok (.invokevirtual 81, 3) := by decide +kernel
theorem dX1_perform_257 : decode cX1_perform 257 = .ok (.ireturn, 1) := by decide +kernel
theorem dX1_perform_258 : decode cX1_perform 258 = .ok (.aload_n 0, 1) := by decide +kernel
theorem dX1_perform_259 : decode cX1_perform 259 = .ok (.aload_n 0, 1) := by decide +kernel
theorem dX1_perform_260 : decode cX1_perform 260 = .ok (.aload_n 0, 1) := by decide +kernel
theorem dX1_perform_261 : decode cX1_perform 261 = .ok (.getfield 36, 3) := by decide +kernel
theorem dX1_perform_264 : decode cX1_perform 264 = .ok (.aload_n 0, 1) := by decide +kernel
theorem dX1_perform_265 : decode cX1_perform 265 = .ok (.aload_n 0, 1) := by decide +kernel
theorem dX1_perform_266 : decode cX1_perform 266 = .ok (.getfield 30, 3) := by decide +kernel
theorem dX1_perform_269 : decode cX1_perform 269 = .ok (.iconst 1, 1) := by decide +kernel
theorem dX1_perform_270 : decode cX1_perform 270 = .ok (.iadd, 1) := by decide +kernel
theorem dX1_perform_271 : decode cX1_perform 271 = .ok (.invokevirtual 61, 3) := by decide +kernel
theorem dX1_perform_274 : decode cX1_perform 274 = .ok (.iadd, 1) := by decide +kernel
theorem dX1_perform_275 : decode cX1_perform 275 = .ok (.invokevirtual 65, 3) := by decide +kernel
theorem dX1_perform_278 : decode cX1_perform 278 = .ok (.iconst 2, 1) := by decide +kernel
theorem dX1_perform_279 : decode cX1_perform 279 = .ok (.bipush 6, 2) := by decide +kernel
theorem dX1_perform_281 : decode cX1_perform 281 = .ok (.invokevirtual 81, 3) := by decide +kernel
theorem dX1_perform_284 : decode cX1_perform 284 = .ok (.ireturn, 1) := by decide +kernel
theorem dX1_perform_285 : decode cX1_perform 285 = .ok (.aload_n 0, 1) := by decide +kernel
theorem dX1_perform_286 : decode cX1_perform 286 = .ok (.aload_n 0, 1) := by decide +kernel
theorem dX1_perform_287 : decode cX1_perform 287 = .ok (.getfield 36, 3) := by decide +kernel
theorem dX1_perform_290 : decode cX1_perform 290 = .ok (.aload_n 0, 1) := by decide +kernel
theorem dX1_perform_291 : decode cX1_perform 291 = .ok (.aload_n 0, 1) := by decide +kernel
theorem dX1_perform_292 : decode cX1_perform 292 = .ok (.getfield 30, 3) := by decide +kernel
theorem dX1_perform_295 : decode cX1_perform 295 = .ok (.iconst 1, 1) := by decide +kernel
theorem dX1_perform_296 : decode cX1_perform 296 = .ok (.iadd, 1) := by decide +kernel
theorem dX1_perform_297 : decode cX1_perform 297 = .ok (.invokevirtual 61, 3) := by decide +kernel
theorem dX1_perform_300 : decode cX1_perform 300 = .ok (.iadd, 1) := by decide +kernel
theorem dX1_perform_301 : decode cX1_perform 301 = .ok (.iconst 2, 1) := by decide +kernel
theorem dX1_perform_302 : decode cX1_perform 302 = .ok (.bipush 7, 2) := by decide +kernel
theorem dX1_perform_304 : decode cX1_perform 304 = .ok (.invokevirtual 85, 3) := by decide +kernel
theorem dX1_perform_307 : decode cX1_perform 307 = .ok (.ireturn, 1) := by decide +kernel
theorem dX1_perform_308 : decode cX1_perform 308 = .ok (.aload_n 0, 1) := by decide +kernel
theorem dX1_perform_309 : decode cX1_perform 309 = .ok (.invokevirtual 103, 3) := by decide +kernel
theorem dX1_perform_312 : decode cX1_perform 312 = .ok (.ireturn, 1) := by decide +kernel
theorem dX1_perform_313 : decode cX1_perform 313 = .ok (.aload_n 0, 1) := by decide +kernel
theorem dX1_perform_314 : decode cX1_perform 314 = .ok (.aload_n 0, 1) := by decide +kernel
theorem dX1_perform_315 : decode cX1_perform 315 = .ok (.aload_n 0, 1) := by decide +kernel
theorem dX1_perform_316 : decode cX1_perform 316 = .ok (.getfield 39, 3) := by decide +kernel
theorem dX1_perform_319 : decode cX1_perform 319 = .ok (.aload_n 0, 1) := by decide +kernel
theorem dX1_perform_320 : decode cX1_perform 320 = .ok (.aload_n 0, 1) := by decide +kernel
theorem dX1_perform_321 : decode cX1_perform 321 = .ok (.getfield 30, 3) := by decide +kernel
theorem dX1_perform_324 : decode cX1_perform 324 = .ok (.iconst 1, 1) := by decide +kernel
theorem dX1_perform_325 : decode cX1_perform 325 = .ok (.iadd, 1) := by decide +kernel
theorem dX1_perform_326 : decode cX1_perform 326 = .ok (.invokevirtual 78, 3) := by decide +kernel
theorem dX1_perform_329 : decode cX1_perform 329 = .ok (.iadd, 1) := by decide +kernel
theorem dX1_perform_330 : decode cX1_perform 330 = .ok (.invokevirtual 65, 3) := by decide +kernel
theorem dX1_perform_333 : decode cX1_perform 333 = .ok (.iconst 3, 1) := by decide +kernel
theorem dX1_perform_334 : decode cX1_perform 334 = .ok (.bipush 8, 2) := by decide +kernel
theorem dX1_perform_336 : decode cX1_perform 336 = .ok (.invokevirtual 81, 3) := by decide +kernel
theorem dX1_perform_339 : decode cX1_perform 339 = .ok (.ireturn, 1) := by decide +kernel
theorem dX1_perform_340 : decode cX1_perform 340 = .ok (.aload_n 0, 1) := by decide +kernel
theorem dX1_perform_341 : decode cX1_perform 341 = .ok (.invokevirtual 106, 3) := by decide +kernel
theorem dX1_perform_344 : decode cX1_perform 344 = .ok (.ireturn, 1) := by decide +kernel
theorem dX1_perform_345 : decode cX1_perform 345 = .ok (.aload_n 0, 1) := by decide +kernel
theorem dX1_perform_346 : decode cX1_perform 346 = .ok (.iconst 1, 1) := by decide +kernel
theorem dX1_perform_347 : decode cX1_perform 347 = .ok (.bipush 7, 2) := by decide +kernel
theorem dX1_perform_349 : decode cX1_perform 349 = .ok (.bipush 7, 2) := by decide +kernel
theorem dX1_perform_351 : decode cX1_perform 351 = .ok (.invokevirtual 92, 3) := by decide +kernel
theorem dX1_perform_354 : decode cX1_perform 354 = .ok (.ireturn, 1) := by decide +kernel
theorem dX1_perform_355 : decode cX1_perform 355 = .ok (.aload_n 0, 1) := by decide +kernel
theorem dX1_perform_356 : decode cX1_perform 356 = .ok (.iload_n 1, 1) := by decide +kernel
theorem dX1_perform_357 : decode cX1_perform 357 = .ok (.invokevirtual 109, 3) := by decide +kernel
theorem dX1_perform_360 : decode cX1_perform 360 = .ok (.ireturn, 1) := by decide +kernel
theorem dX1_perform_361 : decode cX1_perform 361 = .ok (.aload_n 0, 1) := by decide +kernel
theorem dX1_perform_362 : decode cX1_perform 362 = .ok (.invokevirtual 112, 3) := by decide +kernel
theorem dX1_perform_365 : decode cX1_perform 365 = .ok (.ireturn, 1) := by decide +kernel
theorem dX1_perform_366 : decode cX1_perform 366 = .ok (.aload_n 0, 1) := by decide +kernel
theorem dX1_perform_367 : decode cX1_perform 367 = .ok (.invokevirtual 115, 3) := by decide +kernel
theorem dX1_perform_370 : decode cX1_perform 370 = .ok (.ireturn, 1) := by decide +kernel
theorem dX1_perform_371 : decode cX1_perform 371 = .ok (.aload_n 0, 1) := by decide +kernel
theorem dX1_perform_372 : decode cX1_perform 372 = .ok (.aload_n 0, 1) := by decide +kernel
theorem dX1_perform_373 : decode cX1_perform 373 = .ok (.getfield 30, 3) := by decide +kernel
theorem dX1_perform_376 : decode cX1_perform 376 = .ok (.putfield 72, 3) := by decide +kernel
theorem dX1_perform_379 : decode cX1_perform 379 = .ok (.iconst 2, 1) := by decide +kernel
theorem dX1_perform_380 : decode cX1_perform 380 = .ok (.ireturn, 1) := by decide +kernel
theorem dX1_perform_381 : decode cX1_perform 381 = .ok (.aload_n 0, 1) := by decide +kernel
theorem dX1_perform_382 : decode cX1_perform 382 = .ok (.iconst 1, 1) := by decide +kernel
theorem dX1_perform_383 : decode cX1_perform 383 = .ok (.putfield 75, 3) := by decide +kernel
theorem dX1_perform_386 : decode cX1_perform 386 = .ok (.iconst 0, 1) := by decide +kernel
theorem dX1_perform_387 : decode cX1_perform 387 = .ok (.ireturn, 1) := by decide +kernel
theorem dX1_step_0 : decode cX1_step 0 = .ok (.aload_n 0, 1) := by decide +kernel
theorem dX1_step_1 : decode cX1_step 1 = .ok (.getfield 33, 3) := by decide +kernel
theorem dX1_step_4 : decode cX1_step 4 = .ok (.istore_n 1, 1) := by decide +kernel
theorem dX1_step_5 : decode cX1_step 5 = .ok (.aload_n 0, 1) := by decide +kernel
theorem dX1_step_6 : decode cX1_step 6 = .ok (.getfield 36, 3) := by decide +kernel
theorem dX1_step_9 : decode cX1_step 9 = .ok (.istore_n 2, 1) := by decide +kernel
theorem dX1_step_10 : decode cX1_step 10 = .ok (.aload_n 0, 1) := by decide +kernel
theorem dX1_step_11 : decode cX1_step 11 = .ok (.getfield 42, 3) := by decide +kernel
theorem dX1_step_14 : decode cX1_step 14 = .ok (.istore_n 3, 1) := by decide +kernel
theorem dX1_step_15 : decode cX1_step 15 = .ok (.aload_n 0, 1) := by decide +kernel
theorem dX1_step_16 : decode cX1_step 16 = .ok (.iconst 0, 1) := by decide +kernel
theorem dX1_step_17 : decode cX1_step 17 = .ok (.putfield 54, 3) := by decide +kernel
theorem dX1_step_20 : decode cX1_step 20 = .ok (.aload_n 0, 1) := by decide +kernel
theorem dX1_step_21 : decode cX1_step 21 = .ok (.iconst 0, 1) := by decide +kernel
theorem dX1_step_22 : decode cX1_step 22 = .ok (.putfield 75, 3) := by decide +kernel
theorem dX1_step_25 : decode cX1_step 25 = .ok (.aload_n 0, 1) := by decide +kernel
theorem dX1_step_26 : decode cX1_step 26 = .ok (.iconst 0, 1) := by decide +kernel
theorem dX1_step_27 : decode cX1_step 27 = .ok (.putfield 58, 3) := by decide +kernel
theorem dX1_step_30 : decode cX1_step 30 = .ok (.aload_n 0, 1) := by decide +kernel
theorem dX1_step_31 : decode cX1_step 31 = .ok (.aload_n 0, 1) := by decide +kernel
theorem dX1_step_32 : decode cX1_step 32 = .ok (.getfield 30, 3) := by decide +kernel
theorem dX1_step_35 : decode cX1_step 35 = .ok (.invokevirtual 61, 3) := by decide +kernel
theorem dX1_step_38 : decode cX1_step 38 = .ok (.istore 4, 2) := by decide +kernel
theorem dX1_step_40 : decode cX1_step 40 = .ok (.aload_n 0, 1) := by decide +kernel
theorem dX1_step_41 : decode cX1_step 41 = .ok (.getfield 54, 3) := by decide +kernel
theorem dX1_step_44 : decode cX1_step 44 = .ok (.ifCond .eq 7, 3) := by decide +kernel
theorem dX1_step_47 : decode cX1_step 47 = .ok (.iconst 0, 1) := by decide +kernel
theorem dX1_step_48 : decode cX1_step 48 = .ok (.goto 9, 3) := by decide +kernel
theorem dX1_step_51 : decode cX1_step 51 = .ok (.aload_n 0, 1) := by decide +kernel
theorem dX1_step_52 : decode cX1_step 52 = .ok (.iload 4, 2) := by decide +kernel
theorem dX1_step_54 : decode cX1_step 54 = .ok (.invokevirtual 118, 3) := by decide +kernel
theorem dX1_step_57 : decode cX1_step 57 = .ok (.istore 5, 2) := by decide +kernel
theorem dX1_step_59 : decode cX1_step 59 = .ok (.aload_n 0, 1) := by decide +kernel
theorem dX1_step_60 : decode cX1_step 60 = .ok (.getfield 54, 3) := by decide +kernel
theorem dX1_step_63 : decode cX1_step 63 = .ok (.ifCond .ne 57, 3) := by decide +kernel
theorem dX1_step_66 : decode cX1_step 66 = .ok (.aload_n 0, 1) := by decide +kernel
theorem dX1_step_67 : decode cX1_step 67 = .ok (.getfield 75, 3) := by decide +kernel
theorem dX1_step_70 : decode cX1_step 70 = .ok (.ifCond .ne 50, 3) := by decide +kernel
theorem dX1_step_73 : decode cX1_step 73 = .ok (.aload_n 0, 1) := by decide +kernel
theorem dX1_step_74 : decode cX1_step 74 = .ok (.aload_n 0, 1) := by decide +kernel
theorem dX1_step_75 : decode cX1_step 75 = .ok (.getfield 72, 3) := by decide +kernel
theorem dX1_step_78 : decode cX1_step 78 = .ok (.putfield 30, 3) := by decide +kernel
theorem dX1_step_81 : decode cX1_step 81 = .ok (.aload_n 0, 1) := by decide +kernel
theorem dX1_step_82 : decode cX1_step 82 = .ok (.dup, 1) := by decide +kernel
theorem dX1_step_83 : decode cX1_step 83 = .ok (.getfield 48, 3) := by decide +kernel
theorem dX1_step_86 : decode cX1_step 86 = .ok (.iload 5, 2) := by decide +kernel
theorem dX1_step_88 : decode cX1_step 88 = .ok (.iadd, 1) := by decide +kernel
theorem dX1_step_89 : decode cX1_step 89 = .ok (.putfield 48, 3) := by decide +kernel
theorem dX1_step_92 : decode cX1_step 92 = .ok (.aload_n 0, 1) := by decide +kernel
theorem dX1_step_93 : decode cX1_step 93 = .ok (.dup, 1) := by decide +kernel
theorem dX1_step_94 : decode cX1_step 94 = .ok (.getfield 51, 3) := by decide +kernel
theorem dX1_step_97 : decode cX1_step 97 = .ok (.iconst 1, 1) := by decide +kernel
theorem dX1_step_98 : decode cX1_step 98 = .ok (.iadd, 1) := by decide +kernel
theorem dX1_step_99 : decode cX1_step 99 = .ok (.putfield 51, 3) := by decide +kernel
theorem dX1_step_102 : decode cX1_step 102 = .ok (.aload_n 0, 1) := by decide +kernel
theorem dX1_step_103 : decode cX1_step 103 = .ok (.iload 4, 2) := by decide +kernel
theorem dX1_step_105 : decode cX1_step 105 = .ok (.sipush 255, 3) := by decide +kernel
theorem dX1_step_108 : decode cX1_step 108 = .ok (.if_icmp .ne 7, 3) := by decide +kernel
theorem dX1_step_111 : decode cX1_step 111 = .ok (.iconst 1, 1) := by decide +kernel
theorem dX1_step_112 : decode cX1_step 112 = .ok (.goto 4, 3) := by decide +kernel
theorem dX1_step_115 : decode cX1_step 115 = .ok (.iconst 0, 1) := by decide +kernel
theorem dX1_step_116 : decode cX1_step 116 = .ok (.putfield 45, 3) := by decide +kernel
theorem dX1_step_119 : decode cX1_step 119 = .ok (.return_, 1) := by decide +kernel
theorem dX1_step_120 : decode cX1_step 120 = .ok (.aload_n 0, 1) := by decide +kernel
theorem dX1_step_121 : decode cX1_step 121 = .ok (.getfield 58, 3) := by decide +kernel
theorem dX1_step_124 : decode cX1_step 124 = .ok (.ifCond .le 39, 3) := by decide +kernel
theorem dX1_step_127 : decode cX1_step 127 = .ok (.aload_n 0, 1) := by decide +kernel
theorem dX1_step_128 : decode cX1_step 128 = .ok (.dup, 1) := by decide +kernel
theorem dX1_step_129 : decode cX1_step 129 = .ok (.getfield 58, 3) := by decide +kernel
theorem dX1_step_132 : decode cX1_step 132 = .ok (.iconst 1, 1) := by decide +kernel
theorem dX1_step_133 : decode cX1_step 133 = .ok (.isub, 1) := by decide +kernel
theorem dX1_step_134 : decode cX1_step 134 = .ok (.putfield 58, 3) := by decide +kernel
theorem dX1_step_137 : decode cX1_step 137 = .ok (.aload_n 0, 1) := by decide +kernel
theorem dX1_step_138 : decode cX1_step 138 = .ok (.getfield 7, 3) := by decide +kernel
theorem dX1_step_141 : decode cX1_step 141 = .ok (.aload_n 0, 1) := by decide +kernel
theorem dX1_step_142 : decode cX1_step 142 = .ok (.getfield 16, 3) := by decide +kernel
theorem dX1_step_145 : decode cX1_step 145 = .ok (.aload_n 0, 1) := by decide +kernel
theorem dX1_step_146 : decode cX1_step 146 = .ok (.getfield 58, 3) := by decide +kernel
theorem dX1_step_149 : decode cX1_step 149 = .ok (.iaload, 1) := by decide +kernel
theorem dX1_step_150 : decode cX1_step 150 = .ok (.aload_n 0, 1) := by decide +kernel
theorem dX1_step_151 : decode cX1_step 151 = .ok (.getfield 19, 3) := by decide +kernel
theorem dX1_step_154 : decode cX1_step 154 = .ok (.aload_n 0, 1) := by decide +kernel
theorem dX1_step_155 : decode cX1_step 155 = .ok (.getfield 58, 3) := by decide +kernel
theorem dX1_step_158 : decode cX1_step 158 = .ok (.iaload, 1) := by decide +kernel
theorem dX1_step_159 : decode cX1_step 159 = .ok (.iastore, 1) := by decide +kernel
theorem dX1_step_160 : decode cX1_step 160 = .ok (.goto (-40), 3) := by decide +kernel
theorem dX1_step_163 : decode cX1_step 163 = .ok (.aload_n 0, 1) := by decide +kernel
theorem dX1_step_164 : decode cX1_step 164 = .ok (.iload_n 1, 1) := by decide +kernel
theorem dX1_step_165 : decode cX1_step 165 = .ok (.putfield 33, 3) := by decide +kernel
theorem dX1_step_168 : decode cX1_step 168 = .ok (.aload_n 0, 1) := by decide +kernel
theorem dX1_step_169 : decode cX1_step 169 = .ok (.iload_n 2, 1) := by decide +kernel
theorem dX1_step_170 : decode cX1_step 170 = .ok (.putfield 36, 3) := by decide +kernel
theorem dX1_step_173 : decode cX1_step 173 = .ok (.aload_n 0, 1) := by decide +kernel
theorem dX1_step_174 : decode cX1_step 174 = .ok (.iload_n 3, 1) := by decide +kernel
theorem dX1_step_175 : decode cX1_step 175 = .ok (.putfield 42, 3) := by decide +kernel
theorem dX1_step_178 : decode cX1_step 178 = .ok (.aload_n 0, 1) := by decide +kernel
theorem dX1_step_179 : decode cX1_step 179 = .ok (.aload_n 0, 1) := by decide +kernel
theorem dX1_step_180 : decode cX1_step 180 = .ok (.getfield 54, 3) := by decide +kernel
theorem dX1_step_183 : decode cX1_step 183 = .ok (.ifCond .eq 7, 3) := by decide +kernel
theorem dX1_step_186 : decode cX1_step 186 = .ok (.iconst 3, 1) := by decide +kernel
theorem dX1_step_187 : decode cX1_step 187 = .ok (.goto 4, 3) := by decide +kernel
theorem dX1_step_190 : decode cX1_step 190 = .ok (.iconst 2, 1) := by decide +kernel
theorem dX1_step_191 : decode cX1_step 191 = .ok (.putfield 45, 3) := by decide +kernel
theorem dX1_step_194 : decode cX1_step 194 = .ok (.return_, 1) := by decide +kernel
theorem dX1_run_0 : decode cX1_run 0 = .ok (.aload_n 0, 1) := by decide +kernel
theorem dX1_run_1 : decode cX1_run 1 = .ok (.iload_n 1, 1) := by decide +kernel
theorem dX1_run_2 : decode cX1_run 2 = .ok (.ifCond .lt 10, 3) := by decide +kernel
theorem dX1_run_5 : decode cX1_run 5 = .ok (.iload_n 1, 1) := by decide +kernel
theorem dX1_run_6 : decode cX1_run 6 = .ok (.sipush 1000, 3) := by decide +kernel
theorem dX1_run_9 : decode cX1_run 9 = .ok (.if_icmp .le 7, 3) := by decide +kernel
theorem dX1_run_12 : decode cX1_run 12 = .ok (.iconst 1, 1) := by decide +kernel
theorem dX1_run_13 : decode cX1_run 13 = .ok (.goto 15, 3) := by decide +kernel
theorem dX1_run_16 : decode cX1_run 16 = .ok (.aload_n 0, 1) := by decide +kernel
theorem dX1_run_17 : decode cX1_run 17 = .ok (.getfield 45, 3) := by decide +kernel
theorem dX1_run_20 : decode cX1_run 20 = .ok (.ifCond .eq 7, 3) := by decide +kernel
theorem dX1_run_23 : decode cX1_run 23 = .ok (.iconst 2, 1) := by decide +kernel
theorem dX1_run_24 : decode cX1_run 24 = .ok (.goto 4, 3) := by decide +kernel
theorem dX1_run_27 : decode cX1_run 27 = .ok (.iconst 0, 1) := by decide +kernel
theorem dX1_run_28 : decode cX1_run 28 = .ok (.putfield 22, 3) := by decide +kernel
theorem dX1_run_31 : decode cX1_run 31 = .ok (.aload_n 0, 1) := by decide +kernel
theorem dX1_run_32 : decode cX1_run 32 = .ok (.getfield 22, 3) := by decide +kernel
theorem dX1_run_35 : decode cX1_run 35 = .ok (.ifCond .eq 5, 3) := by decide +kernel
theorem dX1_run_38 : decode cX1_run 38 = .ok (.iconst 0, 1) := by decide +kernel
theorem dX1_run_39 : decode cX1_run 39 = .ok (.ireturn, 1) := by decide +kernel
theorem dX1_run_40 : decode cX1_run 40 = .ok (.aload_n 0, 1) := by decide +kernel
theorem dX1_run_41 : decode cX1_run 41 = .ok (.getfield 51, 3) := by decide +kernel
theorem dX1_run_44 : decode cX1_run 44 = .ok (.istore_n 2, 1) := by decide +kernel
theorem dX1_run_45 : decode cX1_run 45 = .ok (.iconst 0, 1) := by decide +kernel
theorem dX1_run_46 : decode cX1_run 46 = .ok (.istore_n 3, 1) := by decide +kernel
theorem dX1_run_47 : decode cX1_run 47 = .ok (.iload_n 3, 1) := by decide +kernel
theorem dX1_run_48 : decode cX1_run 48 = .ok (.iload_n 1, 1) := by decide +kernel
theorem dX1_run_49 : decode cX1_run 49 = .ok (.if_icmp .ge 20, 3) := by decide +kernel
theorem dX1_run_52 : decode cX1_run 52 = .ok (.aload_n 0, 1) := by decide +kernel
theorem dX1_run_53 : decode cX1_run 53 = .ok (.getfield 45, 3) := by decide +kernel
theorem dX1_run_56 : decode cX1_run 56 = .ok (.ifCond .ne 13, 3) := by decide +kernel
theorem dX1_run_59 : decode cX1_run 59 = .ok (.aload_n 0, 1) := by decide +kernel
theorem dX1_run_60 : decode cX1_run 60 = .ok (.invokevirtual 121, 3) := by decide +kernel
theorem dX1_run_63 : decode cX1_run 63 = .ok (.iinc 3 1, 3) := by decide +kernel
theorem dX1_run_66 : decode cX1_run 66 = .ok (.goto (-19), 3) := by decide +kernel
theorem dX1_run_69 : decode cX1_run 69 = .ok (.aload_n 0, 1) := by decide +kernel
theorem dX1_run_70 : decode cX1_run 70 = .ok (.getfield 51, 3) := by decide +kernel
theorem dX1_run_73 : decode cX1_run 73 = .ok (.iload_n 2, 1) := by decide +kernel
theorem dX1_run_74 : decode cX1_run 74 = .ok (.isub, 1) := by decide +kernel
theorem dX1_run_75 : decode cX1_run 75 = .ok (.ireturn, 1) := by decide +kernel
theorem dX1_register_0 : decode cX1_register 0 = .ok (.aload_n 0, 1) := by decide +kernel
theorem dX1_register_1 : decode cX1_register 1 = .ok (.iload_n 1, 1) := by decide +kernel
theorem dX1_register_2 : decode cX1_register 2 = .ok (.ifCond .lt 9, 3) := by decide +kernel
theorem dX1_register_5 : decode cX1_register 5 = .ok (.iload_n 1, 1) := by decide +kernel
theorem dX1_register_6 : decode cX1_register 6 = .ok (.bipush 7, 2) := by decide +kernel
theorem dX1_register_8 : decode cX1_register 8 = .ok (.if_icmp .le 7, 3) := by decide +kernel
theorem dX1_register_11 : decode cX1_register 11 = .ok (.iconst 1, 1) := by decide +kernel
theorem dX1_register_12 : decode cX1_register 12 = .ok (.goto 4, 3) := by decide +kernel
theorem dX1_register_15 : decode cX1_register 15 = .ok (.iconst 0, 1) := by decide +kernel
theorem dX1_register_16 : decode cX1_register 16 = .ok (.putfield 22, 3) := by decide +kernel
theorem dX1_register_19 : decode cX1_register 19 = .ok (.iload_n 1, 1) := by decide +kernel
theorem dX1_register_20 : decode cX1_register 20 = .ok (.tableswitch 88 0 7 #[48, 53, 58, 63, 68, 73, 78, 83], 48) := by decide +kernel
theorem dX1_register_68 : decode cX1_register 68 = .ok (.aload_n 0, 1) := by decide +kernel
theorem dX1_register_69 : decode cX1_register 69 = .ok (.getfield 30, 3) := by decide +kernel
theorem dX1_register_72 : decode cX1_register 72 = .ok (.ireturn, 1) := by decide +kernel
theorem dX1_register_73 : decode cX1_register 73 = .ok (.aload_n 0, 1) := by decide +kernel
theorem dX1_register_74 : decode cX1_register 74 = .ok (.getfield 33, 3) := by decide +kernel
theorem dX1_register_77 : decode cX1_register 77 = .ok (.ireturn, 1) := by decide +kernel
theorem dX1_register_78 : decode cX1_register 78 = .ok (.aload_n 0, 1) := by decide +kernel
theorem dX1_register_79 : decode cX1_register 79 = .ok (.getfield 36, 3) := by decide +kernel
theorem dX1_register_82 : decode cX1_register 82 = .ok (.ireturn, 1) := by decide +kernel
theorem dX1_register_83 : decode cX1_register 83 = .ok (.aload_n 0, 1) := by decide +kernel
theorem dX1_register_84 : decode cX1_register 84 = .ok (.getfield 39, 3) := by decide +kernel
theorem dX1_register_87 : decode cX1_register 87 = .ok (.ireturn, 1) := by decide +kernel
theorem dX1_register_88 : decode cX1_register 88 = .ok (.aload_n 0, 1) := by decide +kernel
theorem dX1_register_89 : decode cX1_register 89 = .ok (.getfield 42, 3) := by decide +kernel
theorem dX1_register_92 : decode cX1_register 92 = .ok (.ireturn, 1) := by decide +kernel
theorem dX1_register_93 : decode cX1_register 93 = .ok (.aload_n 0, 1) := by decide +kernel
theorem dX1_register_94 : decode cX1_register 94 = .ok (.getfield 45, 3) := by decide +kernel
theorem dX1_register_97 : decode cX1_register 97 = .ok (.ireturn, 1) := by decide +kernel
theorem dX1_register_98 : decode cX1_register 98 = .ok (.aload_n 0, 1) := by decide +kernel
theorem dX1_register_99 : decode cX1_register 99 = .ok (.getfield 48, 3) := by decide +kernel
theorem dX1_register_102 : decode cX1_register 102 = .ok (.ireturn, 1) := by decide +kernel
theorem dX1_register_103 : decode cX1_register 103 = .ok (.aload_n 0, 1) := by decide +kernel
theorem dX1_register_104 : decode cX1_register 104 = .ok (.getfield 51, 3) := by decide +kernel
theorem dX1_register_107 : decode cX1_register 107 = .ok (.ireturn, 1) := by decide +kernel
theorem dX1_register_108 : decode cX1_register 108 = .ok (.iconst 0, 1) := by decide +kernel
theorem dX1_register_109 : decode cX1_register 109 = .ok (.ireturn, 1) := by decide +kernel
theorem dX1_look_0 : decode cX1_look 0 = .ok (.aload_n 0, 1) := by decide +kernel
theorem dX1_look_1 : decode cX1_look 1 = .ok (.iload_n 1, 1) := by decide +kernel
theorem dX1_look_2 : decode cX1_look 2 = .ok (.invokestatic 26, 3) := by decide +kernel
theorem dX1_look_5 : decode cX1_look 5 = .ok (.ifCond .eq 7, 3) := by decide +kernel
theorem dX1_look_8 : decode cX1_look 8 = .ok (.iconst 0, 1) := by decide +kernel
theorem dX1_look_9 : decode cX1_look 9 = .ok (.goto 4, 3) := by decide +kernel
theorem dX1_look_12 : decode cX1_look 12 = .ok (.iconst 1, 1) := by decide +kernel
theorem dX1_look_13 : decode cX1_look 13 = .ok (.putfield 22, 3) := by decide +kernel
theorem dX1_look_16 : decode cX1_look 16 = .ok (.aload_n 0, 1) := by decide +kernel
theorem dX1_look_17 : decode cX1_look 17 = .ok (.getfield 22, 3) := by decide +kernel
theorem dX1_look_20 : decode cX1_look 20 = .ok (.ifCond .ne 12, 3) := by decide +kernel
theorem dX1_look_23 : decode cX1_look 23 = .ok (.aload_n 0, 1) := by decide +kernel
theorem dX1_look_24 : decode cX1_look 24 = .ok (.getfield 7, 3) := by decide +kernel
theorem dX1_look_27 : decode cX1_look 27 = .ok (.iload_n 1, 1) := by decide +kernel
theorem dX1_look_28 : decode cX1_look 28 = .ok (.iaload, 1) := by decide +kernel
theorem dX1_look_29 : decode cX1_look 29 = .ok (.goto 4, 3) := by decide +kernel
theorem dX1_look_32 : decode cX1_look 32 = .ok (.iconst 0, 1) := by decide +kernel
theorem dX1_look_33 : decode cX1_look 33 = .ok (.ireturn, 1) := by decide +kernel
theorem dX1_sum_0 : decode cX1_sum 0 = .ok (.aload_n 0, 1) := by decide +kernel
theorem dX1_sum_1 : decode cX1_sum 1 = .ok (.iconst 0, 1) := by decide +kernel
theorem dX1_sum_2 : decode cX1_sum 2 = .ok (.putfield 22, 3) := by decide +kernel
theorem dX1_sum_5 : decode cX1_sum 5 = .ok (.iconst 0, 1) := by decide +kernel
theorem dX1_sum_6 : decode cX1_sum 6 = .ok (.istore_n 1, 1) := by decide +kernel
theorem dX1_sum_7 : decode cX1_sum 7 = .ok (.iconst 0, 1) := by decide +kernel
theorem dX1_sum_8 : decode cX1_sum 8 = .ok (.istore_n 2, 1) := by decide +kernel
theorem dX1_sum_9 : decode cX1_sum 9 = .ok (.iload_n 2, 1) := by decide +kernel
theorem dX1_sum_10 : decode cX1_sum 10 = .ok (.sipush 256, 3) := by decide +kernel
theorem dX1_sum_13 : decode cX1_sum 13 = .ok (.if_icmp .ge 21, 3) := by decide +kernel
theorem dX1_sum_16 : decode cX1_sum 16 = .ok (.bipush 31, 2) := by decide +kernel
theorem dX1_sum_18 : decode cX1_sum 18 = .ok (.iload_n 1, 1) := by decide +kernel
theorem dX1_sum_19 : decode cX1_sum 19 = .ok (.imul, 1) := by decide +kernel
theorem dX1_sum_20 : decode cX1_sum 20 = .ok (.aload_n 0, 1) := by decide +kernel
theorem dX1_sum_21 : decode cX1_sum 21 = .ok (.getfield 7, 3) := by decide +kernel
theorem dX1_sum_24 : decode cX1_sum 24 = .ok (.iload_n 2, 1) := by decide +kernel
theorem dX1_sum_25 : decode cX1_sum 25 = .ok (.iaload, 1) := by decide +kernel
theorem dX1_sum_26 : decode cX1_sum 26 = .ok (.iadd, 1) := by decide +kernel
theorem dX1_sum_27 : decode cX1_sum 27 = .ok (.istore_n 1, 1) := by decide +kernel
theorem dX1_sum_28 : decode cX1_sum 28 = .ok (.iinc 2 1, 3) := by decide +kernel
theorem dX1_sum_31 : decode cX1_sum 31 = .ok (.goto (-22), 3) := by decide +kernel
theorem dX1_sum_34 : decode cX1_sum 34 = .ok (.iload_n 1, 1) := by decide +kernel
theorem dX1_sum_35 : decode cX1_sum 35 = .ok (.ireturn, 1) := by decide +kernel
end
section
theorem dL_word_0 : decode cL_word 0 = .ok (.aload_n 0, 1) := by decide +kernel
theorem dL_word_1 : decode cL_word 1 = .ok (.iload_n 1, 1) := by decide +kernel
theorem dL_word_2 : decode cL_word 2 = .ok (.iload_n 2, 1) := by decide +kernel
theorem dL_word_3 : decode cL_word 3 = .ok (.invokevirtual 7, 3) := by decide +kernel
theorem dL_word_6 : decode cL_word 6 = .ok (.goto 6, 3) := by decide +kernel
theorem dL_word_9 : decode cL_word 9 = .ok (.astore_n 3, 1) := by decide +kernel
theorem dL_word_10 : decode cL_word 10 = .ok (.iconst 1, 1) := by decide +kernel
theorem dL_word_11 : decode cL_word 11 = .ok (.ireturn, 1) := by decide +kernel
theorem dL_word_12 : decode cL_word 12 = .ok (.iconst 0, 1) := by decide +kernel
theorem dL_word_13 : decode cL_word 13 = .ok (.ireturn, 1) := by decide +kernel
theorem dL_code_0 : decode cL_code 0 = .ok (.aload_n 0, 1) := by decide +kernel
theorem dL_code_1 : decode cL_code 1 = .ok (.iload_n 1, 1) := by decide +kernel
theorem dL_code_2 : decode cL_code 2 = .ok (.iload_n 2, 1) := by decide +kernel
theorem dL_code_3 : decode cL_code 3 = .ok (.invokevirtual 15, 3) := by decide +kernel
theorem dL_code_6 : decode cL_code 6 = .ok (.goto 6, 3) := by decide +kernel
theorem dL_code_9 : decode cL_code 9 = .ok (.astore_n 3, 1) := by decide +kernel
theorem dL_code_10 : decode cL_code 10 = .ok (.iconst 1, 1) := by decide +kernel
theorem dL_code_11 : decode cL_code 11 = .ok (.ireturn, 1) := by decide +kernel
theorem dL_code_12 : decode cL_code 12 = .ok (.iconst 0, 1) := by decide +kernel
theorem dL_code_13 : decode cL_code 13 = .ok (.ireturn, 1) := by decide +kernel
theorem dL_run_0 : decode cL_run 0 = .ok (.aload_n 2, 1) := by decide +kernel
theorem dL_run_1 : decode cL_run 1 = .ok (.iconst 0, 1) := by decide +kernel
theorem dL_run_2 : decode cL_run 2 = .ok (.aload_n 0, 1) := by decide +kernel
theorem dL_run_3 : decode cL_run 3 = .ok (.iload_n 1, 1) := by decide +kernel
theorem dL_run_4 : decode cL_run 4 = .ok (.invokevirtual 18, 3) := by decide +kernel
theorem dL_run_7 : decode cL_run 7 = .ok (.i2l, 1) := by decide +kernel
theorem dL_run_8 : decode cL_run 8 = .ok (.lastore, 1) := by decide +kernel
theorem dL_run_9 : decode cL_run 9 = .ok (.goto 9, 3) := by decide +kernel
theorem dL_run_12 : decode cL_run 12 = .ok (.astore_n 3, 1) := by decide +kernel
theorem dL_run_13 : decode cL_run 13 = .ok (.iconst 1, 1) := by decide +kernel
theorem dL_run_14 : decode cL_run 14 = .ok (.ireturn, 1) := by decide +kernel
theorem dL_run_15 : decode cL_run 15 = .ok (.astore_n 3, 1) := by decide +kernel
theorem dL_run_16 : decode cL_run 16 = .ok (.iconst 2, 1) := by decide +kernel
theorem dL_run_17 : decode cL_run 17 = .ok (.ireturn, 1) := by decide +kernel
theorem dL_run_18 : decode cL_run 18 = .ok (.iconst 0, 1) := by decide +kernel
theorem dL_run_19 : decode cL_run 19 = .ok (.ireturn, 1) := by decide +kernel
theorem dL_register_0 : decode cL_register 0 = .ok (.aload_n 2, 1) := by decide +kernel
theorem dL_register_1 : decode cL_register 1 = .ok (.iconst 0, 1) := by decide +kernel
theorem dL_register_2 : decode cL_register 2 = .ok (.aload_n 0, 1) := by decide +kernel
theorem dL_register_3 : decode cL_register 3 = .ok (.iload_n 1, 1) := by decide +kernel
theorem dL_register_4 : decode cL_register 4 = .ok (.invokevirtual 26, 3) := by decide +kernel
theorem dL_register_7 : decode cL_register 7 = .ok (.i2l, 1) := by decide +kernel
theorem dL_register_8 : decode cL_register 8 = .ok (.lastore, 1) := by decide +kernel
theorem dL_register_9 : decode cL_register 9 = .ok (.goto 6, 3) := by decide +kernel
theorem dL_register_12 : decode cL_register 12 = .ok (.astore_n 3, 1) := by decide +kernel
theorem dL_register_13 : decode cL_register 13 = .ok (.iconst 1, 1) := by decide +kernel
theorem dL_register_14 : decode cL_register 14 = .ok (.ireturn, 1) := by decide +kernel
theorem dL_register_15 : decode cL_register 15 = .ok (.iconst 0, 1) := by decide +kernel
theorem dL_register_16 : decode cL_register 16 = .ok (.ireturn, 1) := by decide +kernel
theorem dL_look_0 : decode cL_look 0 = .ok (.aload_n 2, 1) := by decide +kernel
theorem dL_look_1 : decode cL_look 1 = .ok (.iconst 0, 1) := by decide +kernel
theorem dL_look_2 : decode cL_look 2 = .ok (.aload_n 0, 1) := by decide +kernel
theorem dL_look_3 : decode cL_look 3 = .ok (.iload_n 1, 1) := by decide +kernel
theorem dL_look_4 : decode cL_look 4 = .ok (.invokevirtual 29, 3) := by decide +kernel
theorem dL_look_7 : decode cL_look 7 = .ok (.i2l, 1) := by decide +kernel
theorem dL_look_8 : decode cL_look 8 = .ok (.lastore, 1) := by decide +kernel
theorem dL_look_9 : decode cL_look 9 = .ok (.goto 6, 3) := by decide +kernel
theorem dL_look_12 : decode cL_look 12 = .ok (.astore_n 3, 1) := by decide +kernel
theorem dL_look_13 : decode cL_look 13 = .ok (.iconst 1, 1) := by decide +kernel
theorem dL_look_14 : decode cL_look 14 = .ok (.ireturn, 1) := by decide +kernel
theorem dL_look_15 : decode cL_look 15 = .ok (.iconst 0, 1) := by decide +kernel
theorem dL_look_16 : decode cL_look 16 = .ok (.ireturn, 1) := by decide +kernel
theorem dL_law_0 : decode cL_law 0 = .ok (.new 8, 3) := by decide +kernel
theorem dL_law_3 : decode cL_law 3 = .ok (.dup, 1) := by decide +kernel
theorem dL_law_4 : decode cL_law 4 = .ok (.invokespecial 32, 3) := by decide +kernel
theorem dL_law_7 : decode cL_law 7 = .ok (.astore_n 1, 1) := by decide +kernel
theorem dL_law_8 : decode cL_law 8 = .ok (.new 33, 3) := by decide +kernel
theorem dL_law_11 : decode cL_law 11 = .ok (.dup, 1) := by decide +kernel
theorem dL_law_12 : decode cL_law 12 = .ok (.invokespecial 35, 3) := by decide +kernel
theorem dL_law_15 : decode cL_law 15 = .ok (.astore_n 2, 1) := by decide +kernel
theorem dL_law_16 : decode cL_law 16 = .ok (.iconst 1, 1) := by decide +kernel
theorem dL_law_17 : decode cL_law 17 = .ok (.newarray .long, 2) := by decide +kernel
theorem dL_law_19 : decode cL_law 19 = .ok (.astore_n 3, 1) := by decide +kernel
theorem dL_law_20 : decode cL_law 20 = .ok (.iconst 0, 1) := by decide +kernel
theorem dL_law_21 : decode cL_law 21 = .ok (.istore 4, 2) := by decide +kernel
theorem dL_law_23 : decode cL_law 23 = .ok (.iload 4, 2) := by decide +kernel
theorem dL_law_25 : decode cL_law 25 = .ok (.aload_n 0, 1) := by decide +kernel
theorem dL_law_26 : decode cL_law 26 = .ok (.arraylength, 1) := by decide +kernel
theorem dL_law_27 : decode cL_law 27 = .ok (.iconst 5, 1) := by decide +kernel
theorem dL_law_28 : decode cL_law 28 = .ok (.isub, 1) := by decide +kernel
theorem dL_law_29 : decode cL_law 29 = .ok (.if_icmp .gt 393, 3) := by decide +kernel
theorem dL_law_32 : decode cL_law 32 = .ok (.aload_n 0, 1) := by decide +kernel
theorem dL_law_33 : decode cL_law 33 = .ok (.iload 4, 2) := by decide +kernel
theorem dL_law_35 : decode cL_law 35 = .ok (.iaload, 1) := by decide +kernel
theorem dL_law_36 : decode cL_law 36 = .ok (.bipush 7, 2) := by decide +kernel
theorem dL_law_38 : decode cL_law 38 = .ok (.iand, 1) := by decide +kernel
theorem dL_law_39 : decode cL_law 39 = .ok (.tableswitch 377 0 6 #[41, 89, 137, 196, 252, 308, 364], 41) := by decide +kernel
theorem dL_law_80 : decode cL_law 80 = .ok (.aload_n 1, 1) := by decide +kernel
theorem dL_law_81 : decode cL_law 81 = .ok (.aload_n 0, 1) := by decide +kernel
theorem dL_law_82 : decode cL_law 82 = .ok (.iload 4, 2) := by decide +kernel
theorem dL_law_84 : decode cL_law 84 = .ok (.iconst 1, 1) := by decide +kernel
theorem dL_law_85 : decode cL_law 85 = .ok (.iadd, 1) := by decide +kernel
theorem dL_law_86 : decode cL_law 86 = .ok (.iaload, 1) := by decide +kernel
theorem dL_law_87 : decode cL_law 87 = .ok (.aload_n 0, 1) := by decide +kernel
theorem dL_law_88 : decode cL_law 88 = .ok (.iload 4, 2) := by decide +kernel
theorem dL_law_90 : decode cL_law 90 = .ok (.iconst 2, 1) := by decide +kernel
theorem dL_law_91 : decode cL_law 91 = .ok (.iadd, 1) := by decide +kernel
theorem dL_law_92 : decode cL_law 92 = .ok (.iaload, 1) := by decide +kernel
theorem dL_law_93 : decode cL_law 93 = .ok (.invokestatic 36, 3) := by decide +kernel
theorem dL_law_96 : decode cL_law 96 = .ok (.istore 5, 2) := by decide +kernel
theorem dL_law_98 : decode cL_law 98 = .ok (.aload_n 2, 1) := by decide +kernel
theorem dL_law_99 : decode cL_law 99 = .ok (.aload_n 0, 1) := by decide +kernel
theorem dL_law_100 : decode cL_law 100 = .ok (.iload 4, 2) := by decide +kernel
theorem dL_law_102 : decode cL_law 102 = .ok (.iconst 1, 1) := by decide +kernel
theorem dL_law_103 : decode cL_law 103 = .ok (.iadd, 1) := by decide +kernel
theorem dL_law_104 : decode cL_law 104 = .ok (.iaload, 1) := by decide +kernel
theorem dL_law_105 : decode cL_law 105 = .ok (.aload_n 0, 1) := by decide +kernel
theorem dL_law_106 : decode cL_law 106 = .ok (.iload 4, 2) := by decide +kernel
theorem dL_law_108 : decode cL_law 108 = .ok (.iconst 2, 1) := by decide +kernel
theorem dL_law_109 : decode cL_law 109 = .ok (.iadd, 1) := by decide +kernel
theorem dL_law_110 : decode cL_law 110 = .ok (.iaload, 1) := by decide +kernel
theorem dL_law_111 : decode cL_law 111 = .ok (.invokevirtual 41, 3) := by decide +kernel
theorem dL_law_114 : decode cL_law 114 = .ok (.aload_n 2, 1) := by decide +kernel
theorem dL_law_115 : decode cL_law 115 = .ok (.invokevirtual 42, 3) := by decide +kernel
theorem dL_law_118 : decode cL_law 118 = .ok (.iload 5, 2) := by decide +kernel
theorem dL_law_120 : decode cL_law 120 = .ok (.if_icmp .eq 5, 3) := by decide +kernel
theorem dL_law_123 : decode cL_law 123 = .ok (.iconst 0, 1) := by decide +kernel
theorem dL_law_124 : decode cL_law 124 = .ok (.ireturn, 1) := by decide +kernel
theorem dL_law_125 : decode cL_law 125 = .ok (.goto 291, 3) := by decide +kernel
theorem dL_law_128 : decode cL_law 128 = .ok (.aload_n 1, 1) := by decide +kernel
theorem dL_law_129 : decode cL_law 129 = .ok (.aload_n 0, 1) := by decide +kernel
theorem dL_law_130 : decode cL_law 130 = .ok (.iload 4, 2) := by decide +kernel
theorem dL_law_132 : decode cL_law 132 = .ok (.iconst 1, 1) := by decide +kernel
theorem dL_law_133 : decode cL_law 133 = .ok (.iadd, 1) := by decide +kernel
theorem dL_law_134 : decode cL_law 134 = .ok (.iaload, 1) := by decide +kernel
theorem dL_law_135 : decode cL_law 135 = .ok (.aload_n 0, 1) := by decide +kernel
theorem dL_law_136 : decode cL_law 136 = .ok (.iload 4, 2) := by decide +kernel
theorem dL_law_138 : decode cL_law 138 = .ok (.iconst 2, 1) := by decide +kernel
theorem dL_law_139 : decode cL_law 139 = .ok (.iadd, 1) := by decide +kernel
theorem dL_law_140 : decode cL_law 140 = .ok (.iaload, 1) := by decide +kernel
theorem dL_law_141 : decode cL_law 141 = .ok (.invokestatic 46, 3) := by decide +kernel
theorem dL_law_144 : decode cL_law 144 = .ok (.istore 5, 2) := by decide +kernel
theorem dL_law_146 : decode cL_law 146 = .ok (.aload_n 2, 1) := by decide +kernel
theorem dL_law_147 : decode cL_law 147 = .ok (.aload_n 0, 1) := by decide +kernel
theorem dL_law_148 : decode cL_law 148 = .ok (.iload 4, 2) := by decide +kernel
theorem dL_law_150 : decode cL_law 150 = .ok (.iconst 1, 1) := by decide +kernel
theorem dL_law_151 : decode cL_law 151 = .ok (.iadd, 1) := by decide +kernel
theorem dL_law_152 : decode cL_law 152 = .ok (.iaload, 1) := by decide +kernel
theorem dL_law_153 : decode cL_law 153 = .ok (.aload_n 0, 1) := by decide +kernel
theorem dL_law_154 : decode cL_law 154 = .ok (.iload 4, 2) := by decide +kernel
theorem dL_law_156 : decode cL_law 156 = .ok (.iconst 2, 1) := by decide +kernel
theorem dL_law_157 : decode cL_law 157 = .ok (.iadd, 1) := by decide +kernel
theorem dL_law_158 : decode cL_law 158 = .ok (.iaload, 1) := by decide +kernel
theorem dL_law_159 : decode cL_law 159 = .ok (.invokevirtual 48, 3) := by decide +kernel
theorem dL_law_162 : decode cL_law 162 = .ok (.aload_n 2, 1) := by decide +kernel
theorem dL_law_163 : decode cL_law 163 = .ok (.invokevirtual 42, 3) := by decide +kernel
theorem dL_law_166 : decode cL_law 166 = .ok (.iload 5, 2) := by decide +kernel
theorem dL_law_168 : decode cL_law 168 = .ok (.if_icmp .eq 5, 3) := by decide +kernel
theorem dL_law_171 : decode cL_law 171 = .ok (.iconst 0, 1) := by decide +kernel
theorem dL_law_172 : decode cL_law 172 = .ok (.ireturn, 1) := by decide +kernel
theorem dL_law_173 : decode cL_law 173 = .ok (.goto 243, 3) := by decide +kernel
theorem dL_law_176 : decode cL_law 176 = .ok (.aload_n 1, 1) := by decide +kernel
theorem dL_law_177 : decode cL_law 177 = .ok (.aload_n 0, 1) := by decide +kernel
theorem dL_law_178 : decode cL_law 178 = .ok (.iload 4, 2) := by decide +kernel
theorem dL_law_180 : decode cL_law 180 = .ok (.iconst 1, 1) := by decide +kernel
theorem dL_law_181 : decode cL_law 181 = .ok (.iadd, 1) := by decide +kernel
theorem dL_law_182 : decode cL_law 182 = .ok (.iaload, 1) := by decide +kernel
theorem dL_law_183 : decode cL_law 183 = .ok (.aload_n 0, 1) := by decide +kernel
theorem dL_law_184 : decode cL_law 184 = .ok (.iload 4, 2) := by decide +kernel
theorem dL_law_186 : decode cL_law 186 = .ok (.iconst 2, 1) := by decide +kernel
theorem dL_law_187 : decode cL_law 187 = .ok (.iadd, 1) := by decide +kernel
theorem dL_law_188 : decode cL_law 188 = .ok (.iaload, 1) := by decide +kernel
theorem dL_law_189 : decode cL_law 189 = .ok (.aload_n 0, 1) := by decide +kernel
theorem dL_law_190 : decode cL_law 190 = .ok (.iload 4, 2) := by decide +kernel
theorem dL_law_192 : decode cL_law 192 = .ok (.iconst 3, 1) := by decide +kernel
theorem dL_law_193 : decode cL_law 193 = .ok (.iadd, 1) := by decide +kernel
theorem dL_law_194 : decode cL_law 194 = .ok (.iaload, 1) := by decide +kernel
theorem dL_law_195 : decode cL_law 195 = .ok (.aload_n 0, 1) := by decide +kernel
theorem dL_law_196 : decode cL_law 196 = .ok (.iload 4, 2) := by decide +kernel
theorem dL_law_198 : decode cL_law 198 = .ok (.iconst 4, 1) := by decide +kernel
theorem dL_law_199 : decode cL_law 199 = .ok (.iadd, 1) := by decide +kernel
theorem dL_law_200 : decode cL_law 200 = .ok (.iaload, 1) := by decide +kernel
theorem dL_law_201 : decode cL_law 201 = .ok (.invokevirtual 49, 3) := by decide +kernel
theorem dL_law_204 : decode cL_law 204 = .ok (.aload_n 2, 1) := by decide +kernel
theorem dL_law_205 : decode cL_law 205 = .ok (.aload_n 0, 1) := by decide +kernel
theorem dL_law_206 : decode cL_law 206 = .ok (.iload 4, 2) := by decide +kernel
theorem dL_law_208 : decode cL_law 208 = .ok (.iconst 1, 1) := by decide +kernel
theorem dL_law_209 : decode cL_law 209 = .ok (.iadd, 1) := by decide +kernel
theorem dL_law_210 : decode cL_law 210 = .ok (.iaload, 1) := by decide +kernel
theorem dL_law_211 : decode cL_law 211 = .ok (.aload_n 0, 1) := by decide +kernel
theorem dL_law_212 : decode cL_law 212 = .ok (.iload 4, 2) := by decide +kernel
theorem dL_law_214 : decode cL_law 214 = .ok (.iconst 2, 1) := by decide +kernel
theorem dL_law_215 : decode cL_law 215 = .ok (.iadd, 1) := by decide +kernel
theorem dL_law_216 : decode cL_law 216 = .ok (.iaload, 1) := by decide +kernel
theorem dL_law_217 : decode cL_law 217 = .ok (.aload_n 0, 1) := by decide +kernel
theorem dL_law_218 : decode cL_law 218 = .ok (.iload 4, 2) := by decide +kernel
theorem dL_law_220 : decode cL_law 220 = .ok (.iconst 3, 1) := by decide +kernel
theorem dL_law_221 : decode cL_law 221 = .ok (.iadd, 1) := by decide +kernel
theorem dL_law_222 : decode cL_law 222 = .ok (.iaload, 1) := by decide +kernel
theorem dL_law_223 : decode cL_law 223 = .ok (.aload_n 0, 1) := by decide +kernel
theorem dL_law_224 : decode cL_law 224 = .ok (.iload 4, 2) := by decide +kernel
theorem dL_law_226 : decode cL_law 226 = .ok (.iconst 4, 1) := by decide +kernel
theorem dL_law_227 : decode cL_law 227 = .ok (.iadd, 1) := by decide +kernel
theorem dL_law_228 : decode cL_law 228 = .ok (.iaload, 1) := by decide +kernel
theorem dL_law_229 : decode cL_law 229 = .ok (.invokevirtual 53, 3) := by decide +kernel
theorem dL_law_232 : decode cL_law 232 = .ok (.goto 184, 3) := by decide +kernel
theorem dL_law_235 : decode cL_law 235 = .ok (.aload_n 1, 1) := by decide +kernel
theorem dL_law_236 : decode cL_law 236 = .ok (.aload_n 0, 1) := by decide +kernel
theorem dL_law_237 : decode cL_law 237 = .ok (.iload 4, 2) := by decide +kernel
theorem dL_law_239 : decode cL_law 239 = .ok (.iconst 1, 1) := by decide +kernel
theorem dL_law_240 : decode cL_law 240 = .ok (.iadd, 1) := by decide +kernel
theorem dL_law_241 : decode cL_law 241 = .ok (.iaload, 1) := by decide +kernel
theorem dL_law_242 : decode cL_law 242 = .ok (.aload_n 3, 1) := by decide +kernel
theorem dL_law_243 : decode cL_law 243 = .ok (.invokestatic 54, 3) := by decide +kernel
theorem dL_law_246 : decode cL_law 246 = .ok (.istore 5, 2) := by decide +kernel
theorem dL_law_248 : decode cL_law 248 = .ok (.aload_n 2, 1) := by decide +kernel
theorem dL_law_249 : decode cL_law 249 = .ok (.aload_n 0, 1) := by decide +kernel
theorem dL_law_250 : decode cL_law 250 = .ok (.iload 4, 2) := by decide +kernel
theorem dL_law_252 : decode cL_law 252 = .ok (.iconst 1, 1) := by decide +kernel
theorem dL_law_253 : decode cL_law 253 = .ok (.iadd, 1) := by decide +kernel
theorem dL_law_254 : decode cL_law 254 = .ok (.iaload, 1) := by decide +kernel
theorem dL_law_255 : decode cL_law 255 = .ok (.invokevirtual 57, 3) := by decide +kernel
theorem dL_law_258 : decode cL_law 258 = .ok (.istore 6, 2) := by decide +kernel
theorem dL_law_260 : decode cL_law 260 = .ok (.aload_n 2, 1) := by decide +kernel
theorem dL_law_261 : decode cL_law 261 = .ok (.invokevirtual 42, 3) := by decide +kernel
theorem dL_law_264 : decode cL_law 264 = .ok (.iload 5, 2) := by decide +kernel
theorem dL_law_266 : decode cL_law 266 = .ok (.if_icmp .eq 5, 3) := by decide +kernel
theorem dL_law_269 : decode cL_law 269 = .ok (.iconst 0, 1) := by decide +kernel
theorem dL_law_270 : decode cL_law 270 = .ok (.ireturn, 1) := by decide +kernel
theorem dL_law_271 : decode cL_law 271 = .ok (.iload 5, 2) := by decide +kernel
theorem dL_law_273 : decode cL_law 273 = .ok (.ifCond .ne 15, 3) := by decide +kernel
theorem dL_law_276 : decode cL_law 276 = .ok (.aload_n 3, 1) := by decide +kernel
theorem dL_law_277 : decode cL_law 277 = .ok (.iconst 0, 1) := by decide +kernel
theorem dL_law_278 : decode cL_law 278 = .ok (.laload, 1) := by decide +kernel
theorem dL_law_279 : decode cL_law 279 = .ok (.iload 6, 2) := by decide +kernel
theorem dL_law_281 : decode cL_law 281 = .ok (.i2l, 1) := by decide +kernel
theorem dL_law_282 : decode cL_law 282 = .ok (.lcmp, 1) := by decide +kernel
theorem dL_law_283 : decode cL_law 283 = .ok (.ifCond .eq 5, 3) := by decide +kernel
theorem dL_law_286 : decode cL_law 286 = .ok (.iconst 0, 1) := by decide +kernel
theorem dL_law_287 : decode cL_law 287 = .ok (.ireturn, 1) := by decide +kernel
theorem dL_law_288 : decode cL_law 288 = .ok (.goto 128, 3) := by decide +kernel
theorem dL_law_291 : decode cL_law 291 = .ok (.aload_n 1, 1) := by decide +kernel
theorem dL_law_292 : decode cL_law 292 = .ok (.aload_n 0, 1) := by decide +kernel
theorem dL_law_293 : decode cL_law 293 = .ok (.iload 4, 2) := by decide +kernel
theorem dL_law_295 : decode cL_law 295 = .ok (.iconst 1, 1) := by decide +kernel
theorem dL_law_296 : decode cL_law 296 = .ok (.iadd, 1) := by decide +kernel
theorem dL_law_297 : decode cL_law 297 = .ok (.iaload, 1) := by decide +kernel
theorem dL_law_298 : decode cL_law 298 = .ok (.aload_n 3, 1) := by decide +kernel
theorem dL_law_299 : decode cL_law 299 = .ok (.invokestatic 58, 3) := by decide +kernel
theorem dL_law_302 : decode cL_law 302 = .ok (.istore 5, 2) := by decide +kernel
theorem dL_law_304 : decode cL_law 304 = .ok (.aload_n 2, 1) := by decide +kernel
theorem dL_law_305 : decode cL_law 305 = .ok (.aload_n 0, 1) := by decide +kernel
theorem dL_law_306 : decode cL_law 306 = .ok (.iload 4, 2) := by decide +kernel
theorem dL_law_308 : decode cL_law 308 = .ok (.iconst 1, 1) := by decide +kernel
theorem dL_law_309 : decode cL_law 309 = .ok (.iadd, 1) := by decide +kernel
theorem dL_law_310 : decode cL_law 310 = .ok (.iaload, 1) := by decide +kernel
theorem dL_law_311 : decode cL_law 311 = .ok (.invokevirtual 60, 3) := by decide +kernel
theorem dL_law_314 : decode cL_law 314 = .ok (.istore 6, 2) := by decide +kernel
theorem dL_law_316 : decode cL_law 316 = .ok (.aload_n 2, 1) := by decide +kernel
theorem dL_law_317 : decode cL_law 317 = .ok (.invokevirtual 42, 3) := by decide +kernel
theorem dL_law_320 : decode cL_law 320 = .ok (.iload 5, 2) := by decide +kernel
theorem dL_law_322 : decode cL_law 322 = .ok (.if_icmp .eq 5, 3) := by decide +kernel
theorem dL_law_325 : decode cL_law 325 = .ok (.iconst 0, 1) := by decide +kernel
theorem dL_law_326 : decode cL_law 326 = .ok (.ireturn, 1) := by decide +kernel
theorem dL_law_327 : decode cL_law 327 = .ok (.iload 5, 2) := by decide +kernel
theorem dL_law_329 : decode cL_law 329 = .ok (.ifCond .ne 15, 3) := by decide +kernel
theorem dL_law_332 : decode cL_law 332 = .ok (.aload_n 3, 1) := by decide +kernel
theorem dL_law_333 : decode cL_law 333 = .ok (.iconst 0, 1) := by decide +kernel
theorem dL_law_334 : decode cL_law 334 = .ok (.laload, 1) := by decide +kernel
theorem dL_law_335 : decode cL_law 335 = .ok (.iload 6, 2) := by decide +kernel
theorem dL_law_337 : decode cL_law 337 = .ok (.i2l, 1) := by decide +kernel
theorem dL_law_338 : decode cL_law 338 = .ok (.lcmp, 1) := by decide +kernel
theorem dL_law_339 : decode cL_law 339 = .ok (.ifCond .eq 5, 3) := by decide +kernel
theorem dL_law_342 : decode cL_law 342 = .ok (.iconst 0, 1) := by decide +kernel
theorem dL_law_343 : decode cL_law 343 = .ok (.ireturn, 1) := by decide +kernel
theorem dL_law_344 : decode cL_law 344 = .ok (.goto 72, 3) := by decide +kernel
theorem dL_law_347 : decode cL_law 347 = .ok (.aload_n 1, 1) := by decide +kernel
theorem dL_law_348 : decode cL_law 348 = .ok (.aload_n 0, 1) := by decide +kernel
theorem dL_law_349 : decode cL_law 349 = .ok (.iload 4, 2) := by decide +kernel
theorem dL_law_351 : decode cL_law 351 = .ok (.iconst 1, 1) := by decide +kernel
theorem dL_law_352 : decode cL_law 352 = .ok (.iadd, 1) := by decide +kernel
theorem dL_law_353 : decode cL_law 353 = .ok (.iaload, 1) := by decide +kernel
theorem dL_law_354 : decode cL_law 354 = .ok (.aload_n 3, 1) := by decide +kernel
theorem dL_law_355 : decode cL_law 355 = .ok (.invokestatic 61, 3) := by decide +kernel
theorem dL_law_358 : decode cL_law 358 = .ok (.istore 5, 2) := by decide +kernel
theorem dL_law_360 : decode cL_law 360 = .ok (.aload_n 2, 1) := by decide +kernel
theorem dL_law_361 : decode cL_law 361 = .ok (.aload_n 0, 1) := by decide +kernel
theorem dL_law_362 : decode cL_law 362 = .ok (.iload 4, 2) := by decide +kernel
theorem dL_law_364 : decode cL_law 364 = .ok (.iconst 1, 1) := by decide +kernel
theorem dL_law_365 : decode cL_law 365 = .ok (.iadd, 1) := by decide +kernel
theorem dL_law_366 : decode cL_law 366 = .ok (.iaload, 1) := by decide +kernel
theorem dL_law_367 : decode cL_law 367 = .ok (.invokevirtual 63, 3) := by decide +kernel
theorem dL_law_370 : decode cL_law 370 = .ok (.istore 6, 2) := by decide +kernel
theorem dL_law_372 : decode cL_law 372 = .ok (.aload_n 2, 1) := by decide +kernel
theorem dL_law_373 : decode cL_law 373 = .ok (.invokevirtual 42, 3) := by decide +kernel
theorem dL_law_376 : decode cL_law 376 = .ok (.iload 5, 2) := by decide +kernel
theorem dL_law_378 : decode cL_law 378 = .ok (.if_icmp .eq 5, 3) := by decide +kernel
theorem dL_law_381 : decode cL_law 381 = .ok (.iconst 0, 1) := by decide +kernel
theorem dL_law_382 : decode cL_law 382 = .ok (.ireturn, 1) := by decide +kernel
theorem dL_law_383 : decode cL_law 383 = .ok (.iload 5, 2) := by decide +kernel
theorem dL_law_385 : decode cL_law 385 = .ok (.ifCond .ne 15, 3) := by decide +kernel
theorem dL_law_388 : decode cL_law 388 = .ok (.aload_n 3, 1) := by decide +kernel
theorem dL_law_389 : decode cL_law 389 = .ok (.iconst 0, 1) := by decide +kernel
theorem dL_law_390 : decode cL_law 390 = .ok (.laload, 1) := by decide +kernel
theorem dL_law_391 : decode cL_law 391 = .ok (.iload 6, 2) := by decide +kernel
theorem dL_law_393 : decode cL_law 393 = .ok (.i2l, 1) := by decide +kernel
theorem dL_law_394 : decode cL_law 394 = .ok (.lcmp, 1) := by decide +kernel
theorem dL_law_395 : decode cL_law 395 = .ok (.ifCond .eq 5, 3) := by decide +kernel
theorem dL_law_398 : decode cL_law 398 = .ok (.iconst 0, 1) := by decide +kernel
theorem dL_law_399 : decode cL_law 399 = .ok (.ireturn, 1) := by decide +kernel
theorem dL_law_400 : decode cL_law 400 = .ok (.goto 16, 3) := by decide +kernel
theorem dL_law_403 : decode cL_law 403 = .ok (.aload_n 1, 1) := by decide +kernel
theorem dL_law_404 : decode cL_law 404 = .ok (.invokevirtual 64, 3) := by decide +kernel
theorem dL_law_407 : decode cL_law 407 = .ok (.aload_n 2, 1) := by decide +kernel
theorem dL_law_408 : decode cL_law 408 = .ok (.invokevirtual 67, 3) := by decide +kernel
theorem dL_law_411 : decode cL_law 411 = .ok (.if_icmp .eq 5, 3) := by decide +kernel
theorem dL_law_414 : decode cL_law 414 = .ok (.iconst 0, 1) := by decide +kernel
theorem dL_law_415 : decode cL_law 415 = .ok (.ireturn, 1) := by decide +kernel
theorem dL_law_416 : decode cL_law 416 = .ok (.iinc 4 5, 3) := by decide +kernel
theorem dL_law_419 : decode cL_law 419 = .ok (.goto (-396), 3) := by decide +kernel
theorem dL_law_422 : decode cL_law 422 = .ok (.iconst 1, 1) := by decide +kernel
theorem dL_law_423 : decode cL_law 423 = .ok (.ireturn, 1) := by decide +kernel
end
section
theorem zT1 {i : Nat} {w : Cond} (h : tables_1_1[i]? = some w) : w ∈ lw_tbl := List.mem_append_right _ (List.mem_append_left _ (List.mem_of_getElem? h))
theorem zT2 {i : Nat} {w : Cond} (h : tables_1_2[i]? = some w) : w ∈ lw_tbl := List.mem_append_right _ (List.mem_append_right _ (List.mem_of_getElem? h))
theorem zT0 {i : Nat} {w : Cond} (h : (k2_sels lw_privs)[i]? = some w) : w ∈ lw_tbl := List.mem_append_left _ (List.mem_of_getElem? h)
set_option maxRecDepth 100000 in
theorem zin_wsX0_step_r1 : ∀ w ∈ (wsX0_step_r1 : List Cond), w ∈ lw_tbl := List.forall_mem_cons.mpr ⟨zT1 (i := 19) rfl, List.forall_mem_cons.mpr ⟨zT1 (i := 23) rfl, List.forall_mem_cons.mpr ⟨zT1 (i := 143) rfl, List.forall_mem_cons.mpr ⟨zT1 (i := 144) rfl, List.forall_mem_cons.mpr ⟨zT1 (i := 1) rfl, List.forall_mem_cons.mpr ⟨zT1 (i := 145) rfl, List.forall_mem_cons.mpr ⟨zT1 (i := 192) rfl, List.forall_mem_cons.mpr ⟨zT1 (i := 194) rfl, List.forall_mem_cons.mpr ⟨zT0 (i := 2) rfl, List.forall_mem_cons.mpr ⟨zT1 (i := 195) rfl, List.forall_mem_cons.mpr ⟨zT1 (i := 24) rfl, List.forall_mem_cons.mpr ⟨zT1 (i := 196) rfl, List.forall_mem_cons.mpr ⟨zT1 (i := 198) rfl, List.forall_mem_cons.mpr ⟨zT0 (i := 3) rfl, List.forall_mem_cons.mpr ⟨zT1 (i := 199) rfl, List.forall_mem_cons.mpr ⟨zT1 (i := 18) rfl, List.forall_mem_cons.mpr ⟨zT1 (i := 200) rfl, List.forall_mem_cons.mpr ⟨zT1 (i := 202) rfl, List.forall_mem_cons.mpr ⟨zT0 (i := 4) rfl, List.forall_mem_cons.mpr ⟨zT1 (i := 203) rfl, List.forall_mem_cons.mpr ⟨zT1 (i := 25) rfl, List.forall_mem_cons.mpr ⟨zT1 (i := 26) rfl, List.forall_mem_cons.mpr ⟨zT1 (i := 204) rfl, List.forall_mem_cons.mpr ⟨zT1 (i := 206) rfl, fun _ h => absurd h List.not_mem_nil⟩⟩⟩⟩⟩⟩⟩⟩⟩⟩⟩⟩⟩⟩⟩⟩⟩⟩⟩⟩⟩⟩⟩⟩
set_option maxRecDepth 100000 in
theorem zin_wsX0_step_r2 : ∀ w ∈ (wsX0_step_r2 : List Cond), w ∈ lw_tbl := List.forall_mem_cons.mpr ⟨zT0 (i := 5) rfl, List.forall_mem_cons.mpr ⟨zT1 (i := 207) rfl, List.forall_mem_cons.mpr ⟨zT1 (i := 20) rfl, List.forall_mem_cons.mpr ⟨zT1 (i := 17) rfl, List.forall_mem_cons.mpr ⟨zT1 (i := 54) rfl, List.forall_mem_cons.mpr ⟨zT1 (i := 55) rfl, List.forall_mem_cons.mpr ⟨zT1 (i := 56) rfl, List.forall_mem_cons.mpr ⟨zT1 (i := 208) rfl, List.forall_mem_cons.mpr ⟨zT1 (i := 209) rfl, List.forall_mem_cons.mpr ⟨zT1 (i := 210) rfl, List.forall_mem_cons.mpr ⟨zT1 (i := 211) rfl, List.forall_mem_cons.mpr ⟨zT1 (i := 213) rfl, List.forall_mem_cons.mpr ⟨zT0 (i := 6) rfl, List.forall_mem_cons.mpr ⟨zT1 (i := 214) rfl, List.forall_mem_cons.mpr ⟨zT1 (i := 215) rfl, List.forall_mem_cons.mpr ⟨zT1 (i := 217) rfl, List.forall_mem_cons.mpr ⟨zT0 (i := 7) rfl, List.forall_mem_cons.mpr ⟨zT1 (i := 218) rfl, List.forall_mem_cons.mpr ⟨zT1 (i := 219) rfl, List.forall_mem_cons.mpr ⟨zT1 (i := 221) rfl, List.forall_mem_cons.mpr ⟨zT0 (i := 8) rfl, List.forall_mem_cons.mpr ⟨zT1 (i := 222) rfl, List.forall_mem_cons.mpr ⟨zT1 (i := 223) rfl, List.forall_mem_cons.mpr ⟨zT1 (i := 225) rfl, fun _ h => absurd h List.not_mem_nil⟩⟩⟩⟩⟩⟩⟩⟩⟩⟩⟩⟩⟩⟩⟩⟩⟩⟩⟩⟩⟩⟩⟩⟩
set_option maxRecDepth 100000 in
theorem zin_wsX0_step_r3 : ∀ w ∈ (wsX0_step_r3 : List Cond), w ∈ lw_tbl := List.forall_mem_cons.mpr ⟨zT0 (i := 9) rfl, List.forall_mem_cons.mpr ⟨zT1 (i := 226) rfl, List.forall_mem_cons.mpr ⟨zT1 (i := 227) rfl, List.forall_mem_cons.mpr ⟨zT1 (i := 229) rfl, List.forall_mem_cons.mpr ⟨zT0 (i := 10) rfl, List.forall_mem_cons.mpr ⟨zT1 (i := 230) rfl, List.forall_mem_cons.mpr ⟨zT1 (i := 21) rfl, List.forall_mem_cons.mpr ⟨zT1 (i := 231) rfl, List.forall_mem_cons.mpr ⟨zT1 (i := 233) rfl, List.forall_mem_cons.mpr ⟨zT0 (i := 11) rfl, List.forall_mem_cons.mpr ⟨zT1 (i := 234) rfl, List.forall_mem_cons.mpr ⟨zT1 (i := 235) rfl, List.forall_mem_cons.mpr ⟨zT1 (i := 237) rfl, List.forall_mem_cons.mpr ⟨zT0 (i := 12) rfl, List.forall_mem_cons.mpr ⟨zT1 (i := 238) rfl, List.forall_mem_cons.mpr ⟨zT1 (i := 239) rfl, List.forall_mem_cons.mpr ⟨zT2 (i := 1) rfl, List.forall_mem_cons.mpr ⟨zT0 (i := 13) rfl, List.forall_mem_cons.mpr ⟨zT2 (i := 2) rfl, List.forall_mem_cons.mpr ⟨zT2 (i := 3) rfl, List.forall_mem_cons.mpr ⟨zT2 (i := 5) rfl, List.forall_mem_cons.mpr ⟨zT0 (i := 14) rfl, List.forall_mem_cons.mpr ⟨zT2 (i := 6) rfl, List.forall_mem_cons.mpr ⟨zT2 (i := 7) rfl, fun _ h => absurd h List.not_mem_nil⟩⟩⟩⟩⟩⟩⟩⟩⟩⟩⟩⟩⟩⟩⟩⟩⟩⟩⟩⟩⟩⟩⟩⟩
set_option maxRecDepth 100000 in
theorem zin_wsX0_step_r4 : ∀ w ∈ (wsX0_step_r4 : List Cond), w ∈ lw_tbl := List.forall_mem_cons.mpr ⟨zT2 (i := 9) rfl, List.forall_mem_cons.mpr ⟨zT0 (i := 15) rfl, List.forall_mem_cons.mpr ⟨zT2 (i := 10) rfl, List.forall_mem_cons.mpr ⟨zT2 (i := 11) rfl, List.forall_mem_cons.mpr ⟨zT2 (i := 13) rfl, List.forall_mem_cons.mpr ⟨zT0 (i := 16) rfl, List.forall_mem_cons.mpr ⟨zT2 (i := 14) rfl, List.forall_mem_cons.mpr ⟨zT2 (i := 15) rfl, List.forall_mem_cons.mpr ⟨zT2 (i := 17) rfl, List.forall_mem_cons.mpr ⟨zT0 (i := 17) rfl, List.forall_mem_cons.mpr ⟨zT2 (i := 18) rfl, List.forall_mem_cons.mpr ⟨zT1 (i := 22) rfl, List.forall_mem_cons.mpr ⟨zT2 (i := 19) rfl, List.forall_mem_cons.mpr ⟨zT2 (i := 21) rfl, List.forall_mem_cons.mpr ⟨zT0 (i := 18) rfl, List.forall_mem_cons.mpr ⟨zT2 (i := 22) rfl, List.forall_mem_cons.mpr ⟨zT2 (i := 23) rfl, List.forall_mem_cons.mpr ⟨zT2 (i := 25) rfl, List.forall_mem_cons.mpr ⟨zT0 (i := 19) rfl, List.forall_mem_cons.mpr ⟨zT2 (i := 26) rfl, List.forall_mem_cons.mpr ⟨zT2 (i := 27) rfl, List.forall_mem_cons.mpr ⟨zT2 (i := 29) rfl, List.forall_mem_cons.mpr ⟨zT0 (i := 20) rfl, List.forall_mem_cons.mpr ⟨zT2 (i := 30) rfl, fun _ h => absurd h List.not_mem_nil⟩⟩⟩⟩⟩⟩⟩⟩⟩⟩⟩⟩⟩⟩⟩⟩⟩⟩⟩⟩⟩⟩⟩⟩
set_option maxRecDepth 100000 in
theorem zin_wsX0_step_r5 : ∀ w ∈ (wsX0_step_r5 : List Cond), w ∈ lw_tbl := List.forall_mem_cons.mpr ⟨zT2 (i := 31) rfl, List.forall_mem_cons.mpr ⟨zT2 (i := 33) rfl, List.forall_mem_cons.mpr ⟨zT0 (i := 21) rfl, List.forall_mem_cons.mpr ⟨zT2 (i := 34) rfl, List.forall_mem_cons.mpr ⟨zT2 (i := 35) rfl, List.forall_mem_cons.mpr ⟨zT2 (i := 37) rfl, List.forall_mem_cons.mpr ⟨zT0 (i := 22) rfl, List.forall_mem_cons.mpr ⟨zT2 (i := 38) rfl, List.forall_mem_cons.mpr ⟨zT2 (i := 39) rfl, List.forall_mem_cons.mpr ⟨zT2 (i := 41) rfl, List.forall_mem_cons.mpr ⟨zT0 (i := 23) rfl, List.forall_mem_cons.mpr ⟨zT2 (i := 42) rfl, List.forall_mem_cons.mpr ⟨zT2 (i := 43) rfl, List.forall_mem_cons.mpr ⟨zT2 (i := 45) rfl, List.forall_mem_cons.mpr ⟨zT0 (i := 24) rfl, List.forall_mem_cons.mpr ⟨zT2 (i := 46) rfl, List.forall_mem_cons.mpr ⟨zT2 (i := 47) rfl, List.forall_mem_cons.mpr ⟨zT2 (i := 49) rfl, List.forall_mem_cons.mpr ⟨zT0 (i := 25) rfl, List.forall_mem_cons.mpr ⟨zT2 (i := 50) rfl, List.forall_mem_cons.mpr ⟨zT2 (i := 51) rfl, List.forall_mem_cons.mpr ⟨zT2 (i := 53) rfl, List.forall_mem_cons.mpr ⟨zT0 (i := 26) rfl, List.forall_mem_cons.mpr ⟨zT2 (i := 54) rfl, fun _ h => absurd h List.not_mem_nil⟩⟩⟩⟩⟩⟩⟩⟩⟩⟩⟩⟩⟩⟩⟩⟩⟩⟩⟩⟩⟩⟩⟩⟩
set_option maxRecDepth 100000 in
theorem zin_wsX00 : ∀ w ∈ wsX00, w ∈ lw_tbl := by
  show ∀ w ∈ [u_lay RX0 TX0 0, u_lay RX0 TX0 1, u_lay RX0 TX0 2, u_lay RX0 TX0 3, u_lay RX0 TX0 4, u_lay RX0 TX0 5, u_lay RX0 TX0 6, u_lay RX0 TX0 7, u_lay RX0 TX0 8, u_lay RX0 TX0 9], w ∈ lw_tbl
  exact List.forall_mem_cons.mpr ⟨zT1 (i := 27) rfl, List.forall_mem_cons.mpr ⟨zT1 (i := 29) rfl, List.forall_mem_cons.mpr ⟨zT1 (i := 31) rfl, List.forall_mem_cons.mpr ⟨zT1 (i := 33) rfl, List.forall_mem_cons.mpr ⟨zT1 (i := 35) rfl, List.forall_mem_cons.mpr ⟨zT1 (i := 37) rfl, List.forall_mem_cons.mpr ⟨zT1 (i := 39) rfl, List.forall_mem_cons.mpr ⟨zT1 (i := 41) rfl, List.forall_mem_cons.mpr ⟨zT1 (i := 43) rfl, List.forall_mem_cons.mpr ⟨zT1 (i := 45) rfl, fun _ h => absurd h List.not_mem_nil⟩⟩⟩⟩⟩⟩⟩⟩⟩⟩
set_option maxRecDepth 100000 in
theorem zin_wsX0_step : ∀ w ∈ wsX0_step, w ∈ lw_tbl := List.forall_mem_cons.mpr ⟨zT1 (i := 191) rfl, List.forall_mem_append.mpr ⟨List.forall_mem_append.mpr ⟨zin_wsX0_step_r1, List.forall_mem_append.mpr ⟨zin_wsX0_step_r2, List.forall_mem_append.mpr ⟨zin_wsX0_step_r3, List.forall_mem_append.mpr ⟨zin_wsX0_step_r4, zin_wsX0_step_r5⟩⟩⟩⟩, zin_wsX00⟩⟩
set_option maxRecDepth 100000 in
theorem zin_wsX1_step_r1 : ∀ w ∈ (wsX1_step_r1 : List Cond), w ∈ lw_tbl := List.forall_mem_cons.mpr ⟨zT2 (i := 80) rfl, List.forall_mem_cons.mpr ⟨zT2 (i := 81) rfl, List.forall_mem_cons.mpr ⟨zT2 (i := 83) rfl, List.forall_mem_cons.mpr ⟨zT2 (i := 88) rfl, List.forall_mem_cons.mpr ⟨zT2 (i := 89) rfl, List.forall_mem_cons.mpr ⟨zT2 (i := 90) rfl, List.forall_mem_cons.mpr ⟨zT2 (i := 79) rfl, List.forall_mem_cons.mpr ⟨zT2 (i := 87) rfl, List.forall_mem_cons.mpr ⟨zT2 (i := 85) rfl, List.forall_mem_cons.mpr ⟨zT2 (i := 86) rfl, List.forall_mem_cons.mpr ⟨zT2 (i := 84) rfl, List.forall_mem_cons.mpr ⟨zT2 (i := 77) rfl, List.forall_mem_cons.mpr ⟨zT2 (i := 91) rfl, List.forall_mem_cons.mpr ⟨zT2 (i := 92) rfl, List.forall_mem_cons.mpr ⟨zT2 (i := 155) rfl, List.forall_mem_cons.mpr ⟨zT2 (i := 157) rfl, List.forall_mem_cons.mpr ⟨zT0 (i := 28) rfl, List.forall_mem_cons.mpr ⟨zT1 (i := 2) rfl, List.forall_mem_cons.mpr ⟨zT2 (i := 158) rfl, List.forall_mem_cons.mpr ⟨zT2 (i := 78) rfl, List.forall_mem_cons.mpr ⟨zT2 (i := 159) rfl, List.forall_mem_cons.mpr ⟨zT2 (i := 161) rfl, List.forall_mem_cons.mpr ⟨zT0 (i := 29) rfl, List.forall_mem_cons.mpr ⟨zT2 (i := 162) rfl, fun _ h => absurd h List.not_mem_nil⟩⟩⟩⟩⟩⟩⟩⟩⟩⟩⟩⟩⟩⟩⟩⟩⟩⟩⟩⟩⟩⟩⟩⟩
set_option maxRecDepth 100000 in
theorem zin_wsX1_step_r2 : ∀ w ∈ (wsX1_step_r2 : List Cond), w ∈ lw_tbl := List.forall_mem_cons.mpr ⟨zT2 (i := 82) rfl, List.forall_mem_cons.mpr ⟨zT2 (i := 163) rfl, List.forall_mem_cons.mpr ⟨zT2 (i := 165) rfl, List.forall_mem_cons.mpr ⟨zT0 (i := 30) rfl, List.forall_mem_cons.mpr ⟨zT2 (i := 166) rfl, List.forall_mem_cons.mpr ⟨zT2 (i := 167) rfl, List.forall_mem_cons.mpr ⟨zT2 (i := 169) rfl, List.forall_mem_cons.mpr ⟨zT0 (i := 31) rfl, List.forall_mem_cons.mpr ⟨zT2 (i := 170) rfl, List.forall_mem_cons.mpr ⟨zT2 (i := 136) rfl, List.forall_mem_cons.mpr ⟨zT2 (i := 137) rfl, List.forall_mem_cons.mpr ⟨zT2 (i := 138) rfl, List.forall_mem_cons.mpr ⟨zT2 (i := 171) rfl, List.forall_mem_cons.mpr ⟨zT2 (i := 173) rfl, List.forall_mem_cons.mpr ⟨zT0 (i := 32) rfl, List.forall_mem_cons.mpr ⟨zT2 (i := 174) rfl, List.forall_mem_cons.mpr ⟨zT2 (i := 175) rfl, List.forall_mem_cons.mpr ⟨zT2 (i := 177) rfl, List.forall_mem_cons.mpr ⟨zT0 (i := 33) rfl, List.forall_mem_cons.mpr ⟨zT2 (i := 178) rfl, List.forall_mem_cons.mpr ⟨zT2 (i := 179) rfl, List.forall_mem_cons.mpr ⟨zT2 (i := 181) rfl, List.forall_mem_cons.mpr ⟨zT0 (i := 34) rfl, List.forall_mem_cons.mpr ⟨zT2 (i := 182) rfl, fun _ h => absurd h List.not_mem_nil⟩⟩⟩⟩⟩⟩⟩⟩⟩⟩⟩⟩⟩⟩⟩⟩⟩⟩⟩⟩⟩⟩⟩⟩
set_option maxRecDepth 100000 in
theorem zin_wsX1_step_r3 : ∀ w ∈ (wsX1_step_r3 : List Cond), w ∈ lw_tbl := List.forall_mem_cons.mpr ⟨zT2 (i := 183) rfl, List.forall_mem_cons.mpr ⟨zT2 (i := 184) rfl, List.forall_mem_cons.mpr ⟨zT2 (i := 185) rfl, List.forall_mem_cons.mpr ⟨zT2 (i := 186) rfl, List.forall_mem_cons.mpr ⟨zT2 (i := 188) rfl, List.forall_mem_cons.mpr ⟨zT0 (i := 35) rfl, List.forall_mem_cons.mpr ⟨zT2 (i := 189) rfl, List.forall_mem_cons.mpr ⟨zT2 (i := 190) rfl, List.forall_mem_cons.mpr ⟨zT2 (i := 192) rfl, List.forall_mem_cons.mpr ⟨zT0 (i := 36) rfl, List.forall_mem_cons.mpr ⟨zT2 (i := 193) rfl, List.forall_mem_cons.mpr ⟨zT2 (i := 194) rfl, List.forall_mem_cons.mpr ⟨zT2 (i := 196) rfl, List.forall_mem_cons.mpr ⟨zT0 (i := 37) rfl, List.forall_mem_cons.mpr ⟨zT2 (i := 197) rfl, List.forall_mem_cons.mpr ⟨zT2 (i := 198) rfl, List.forall_mem_cons.mpr ⟨zT2 (i := 200) rfl, List.forall_mem_cons.mpr ⟨zT0 (i := 38) rfl, List.forall_mem_cons.mpr ⟨zT2 (i := 201) rfl, List.forall_mem_cons.mpr ⟨zT2 (i := 202) rfl, List.forall_mem_cons.mpr ⟨zT2 (i := 204) rfl, List.forall_mem_cons.mpr ⟨zT0 (i := 39) rfl, List.forall_mem_cons.mpr ⟨zT2 (i := 205) rfl, List.forall_mem_cons.mpr ⟨zT2 (i := 206) rfl, fun _ h => absurd h List.not_mem_nil⟩⟩⟩⟩⟩⟩⟩⟩⟩⟩⟩⟩⟩⟩⟩⟩⟩⟩⟩⟩⟩⟩⟩⟩
set_option maxRecDepth 100000 in
theorem zin_wsX1_step_r4 : ∀ w ∈ (wsX1_step_r4 : List Cond), w ∈ lw_tbl := List.forall_mem_cons.mpr ⟨zT2 (i := 208) rfl, List.forall_mem_cons.mpr ⟨zT0 (i := 40) rfl, List.forall_mem_cons.mpr ⟨zT2 (i := 209) rfl, List.forall_mem_cons.mpr ⟨zT2 (i := 210) rfl, List.forall_mem_cons.mpr ⟨zT2 (i := 212) rfl, List.forall_mem_cons.mpr ⟨zT0 (i := 41) rfl, List.forall_mem_cons.mpr ⟨zT2 (i := 213) rfl, List.forall_mem_cons.mpr ⟨zT2 (i := 214) rfl, List.forall_mem_cons.mpr ⟨zT2 (i := 216) rfl, List.forall_mem_cons.mpr ⟨zT0 (i := 42) rfl, List.forall_mem_cons.mpr ⟨zT2 (i := 217) rfl, fun _ h => absurd h List.not_mem_nil⟩⟩⟩⟩⟩⟩⟩⟩⟩⟩⟩
set_option maxRecDepth 100000 in
theorem zin_wsX10 : ∀ w ∈ wsX10, w ∈ lw_tbl := by
  show ∀ w ∈ [u_lay RX1 TX1 0, u_lay RX1 TX1 1, u_lay RX1 TX1 2, u_lay RX1 TX1 3, u_lay RX1 TX1 4, u_lay RX1 TX1 5, u_lay RX1 TX1 6, u_lay RX1 TX1 7, u_lay RX1 TX1 8, u_lay RX1 TX1 9, u_lay RX1 TX1 10, u_lay RX1 TX1 11, u_lay RX1 TX1 12, u_lay RX1 TX1 13, u_lay RX1 TX1 14, u_lay RX1 TX1 15, u_lay RX1 TX1 16], w ∈ lw_tbl
  exact List.forall_mem_cons.mpr ⟨zT2 (i := 93) rfl, List.forall_mem_cons.mpr ⟨zT2 (i := 95) rfl, List.forall_mem_cons.mpr ⟨zT2 (i := 97) rfl, List.forall_mem_cons.mpr ⟨zT2 (i := 99) rfl, List.forall_mem_cons.mpr ⟨zT2 (i := 101) rfl, List.forall_mem_cons.mpr ⟨zT2 (i := 103) rfl, List.forall_mem_cons.mpr ⟨zT2 (i := 105) rfl, List.forall_mem_cons.mpr ⟨zT2 (i := 107) rfl, List.forall_mem_cons.mpr ⟨zT2 (i := 109) rfl, List.forall_mem_cons.mpr ⟨zT2 (i := 111) rfl, List.forall_mem_cons.mpr ⟨zT2 (i := 113) rfl, List.forall_mem_cons.mpr ⟨zT2 (i := 115) rfl, List.forall_mem_cons.mpr ⟨zT2 (i := 117) rfl, List.forall_mem_cons.mpr ⟨zT2 (i := 119) rfl, List.forall_mem_cons.mpr ⟨zT2 (i := 121) rfl, List.forall_mem_cons.mpr ⟨zT2 (i := 123) rfl, List.forall_mem_cons.mpr ⟨zT2 (i := 125) rfl, fun _ h => absurd h List.not_mem_nil⟩⟩⟩⟩⟩⟩⟩⟩⟩⟩⟩⟩⟩⟩⟩⟩⟩
set_option maxRecDepth 100000 in
theorem zin_wsX1_step : ∀ w ∈ wsX1_step, w ∈ lw_tbl := List.forall_mem_cons.mpr ⟨zT2 (i := 154) rfl, List.forall_mem_append.mpr ⟨List.forall_mem_append.mpr ⟨zin_wsX1_step_r1, List.forall_mem_append.mpr ⟨zin_wsX1_step_r2, List.forall_mem_append.mpr ⟨zin_wsX1_step_r3, zin_wsX1_step_r4⟩⟩⟩, zin_wsX10⟩⟩
/-- the words of the reference: those of its step, and the link of one field more -/
def zwT : List Cond := .fieldLink RX1 22 "StackComputerModel" "thrown" "I" :: wsX1_step
theorem zin_zwT : ∀ w ∈ zwT, w ∈ lw_tbl := List.forall_mem_cons.mpr ⟨zT2 (i := 76) rfl, zin_wsX1_step⟩
end
section

theorem z_sw {x k : Int32} {ps : List (Int × Int)} {d o : Int} (h : x = k) (e : Op.lookupswitch.offset ps d k.toInt = o) : Op.lookupswitch.offset ps d x.toInt = o := by rw [h]; exact e
def zrm (d : Nat) : Room := { frames := d, cells := 0, slots := 0, locals := 40 * d }
theorem z_Dof {A : Nat → Prop} {ws : va_W} (h : (ws.map Prod.fst).Nodup) (hA : ∀ a ∈ ws.map Prod.fst, A a) : va_D A ws := by
  refine ⟨fun i j p q hi hj e => ?_, fun k q hk => hA _ (List.mem_map.mpr ⟨q, List.mem_of_getElem? hk, rfl⟩)⟩
  have hl : i < (ws.map Prod.fst).length := by rw [List.length_map]; exact (List.getElem?_eq_some_iff.mp hi).1
  refine (List.getElem?_inj (j := j) hl h).mp ?_
  rw [List.getElem?_map, List.getElem?_map, hi, hj]
  exact congrArg some e
section ZBase
variable {p : Program} {l : Launch} {e : Env} {R : Room} {s : State} {m : MethodId} {args : Array Value} {below : List Frame} {meth : Method} {c : Code} {cc : ByteArray} {pc : Nat} {ls : Array Slot}
theorem z_sret {ty : FieldType} {r v : Int32} (hx : p.tables.exec = Jvm.exec) (hb : c.code = cc) (hr : meth.sig.returnType = some ty) (hn : narrow ty (.int v) = .int v) (hlk : meth.locks = false) (er : r = v) (hdg : decode cc pc = .ok (.ireturn, 1)) :
    W p l e R s m args below meth c s.heap [] 0 0 (MQ below (QcRead r) args s 0 0 (fun _ => False)) (F0 m pc ls [.int v]) := by
  subst er
  exact W.zret hx hb hr hn (fun t ht _ => ⟨rfl, ht⟩) (fun q h => by cases h) hdg (hlocks := hlk)
end ZBase
theorem z_enterS {l : Launch} {y : MethodName} {cc : ByteArray} {maxL : Nat} {ret : Option FieldType} {av : List Value} {r : Int32} {ws' : List Cond} (hy : plainName y.cls = true) (hm : (lg_sl av).length ≤ maxL)
    (body : ∀ (p : Program) (e : Env) (s : State) (m : MethodId) (below : List Frame) (meth : Method) (c : Code) (ls : Array Slot), p.tables.exec = Jvm.exec → c.code = cc → meth.sig.returnType = ret → meth.locks = false → lv_has ls maxL (lv_args 0 av) →
      W p l e (zrm 0) s m av.toArray below meth c s.heap [] 0 0 (MQ below (QcRead r) av.toArray s 0 0 (fun _ => False)) (F0 m 0 ls [])) :
    Met l y (.code y cc maxL ret :: ws') (zrm 0) (fun a _ => a = av.toArray) (QcRead r) 0 0 (fun _ => False) := by
  refine Met.ofW (cc := cc) (maxL := maxL) (ret := ret) hy rfl ?_
  intro p e s m args below meth c s₁ B hml hv
  subst hv
  rw [lg_entry_eq]
  exact body p e s m below meth c _ B.exec B.bytes B.returns B.notSynchronized (lv_entry av hm)
abbrev Zxk : Type := va_G × Nat × Nat × Nat × ClassId × ClassId
def zxa_this (k : Zxk) : Nat := k.2.1
def zxa_words (k : Zxk) : Nat := k.2.2.1
def zxa_bytes (k : Zxk) : Nat := k.2.2.2.1
def zxc_words (k : Zxk) : ClassId := k.2.2.2.2.1
def zxc_bytes (k : Zxk) : ClassId := k.2.2.2.2.2
abbrev Zxs : Type := (Nat → Int32) × (Nat → Int32) × Int32 × Int32 × Int32 × Int32 × Int32 × Int32 × Int32 × Int32
def zxg_words (u : Zxs) : (Nat → Int32) := u.1
def zxs_words (u : Zxs) (v : (Nat → Int32)) : Zxs := (v, u.2)
def zxg_bytes (u : Zxs) : (Nat → Int32) := u.2.1
def zxs_bytes (u : Zxs) (v : (Nat → Int32)) : Zxs := (u.1, v, u.2.2)
def zxg_pc (u : Zxs) : Int32 := u.2.2.1
def zxs_pc (u : Zxs) (v : Int32) : Zxs := (u.1, u.2.1, v, u.2.2.2)
def zxg_sp (u : Zxs) : Int32 := u.2.2.2.1
def zxs_sp (u : Zxs) (v : Int32) : Zxs := (u.1, u.2.1, u.2.2.1, v, u.2.2.2.2)
def zxg_lv (u : Zxs) : Int32 := u.2.2.2.2.1
def zxs_lv (u : Zxs) (v : Int32) : Zxs := (u.1, u.2.1, u.2.2.1, u.2.2.2.1, v, u.2.2.2.2.2)
def zxg_cpp (u : Zxs) : Int32 := u.2.2.2.2.2.1
def zxs_cpp (u : Zxs) (v : Int32) : Zxs := (u.1, u.2.1, u.2.2.1, u.2.2.2.1, u.2.2.2.2.1, v, u.2.2.2.2.2.2)
def zxg_top (u : Zxs) : Int32 := u.2.2.2.2.2.2.1
def zxs_top (u : Zxs) (v : Int32) : Zxs := (u.1, u.2.1, u.2.2.1, u.2.2.2.1, u.2.2.2.2.1, u.2.2.2.2.2.1, v, u.2.2.2.2.2.2.2)
def zxg_state (u : Zxs) : Int32 := u.2.2.2.2.2.2.2.1
def zxs_state (u : Zxs) (v : Int32) : Zxs := (u.1, u.2.1, u.2.2.1, u.2.2.2.1, u.2.2.2.2.1, u.2.2.2.2.2.1, u.2.2.2.2.2.2.1, v, u.2.2.2.2.2.2.2.2)
def zxg_cycles (u : Zxs) : Int32 := u.2.2.2.2.2.2.2.2.1
def zxs_cycles (u : Zxs) (v : Int32) : Zxs := (u.1, u.2.1, u.2.2.1, u.2.2.2.1, u.2.2.2.2.1, u.2.2.2.2.2.1, u.2.2.2.2.2.2.1, u.2.2.2.2.2.2.2.1, v, u.2.2.2.2.2.2.2.2.2)
def zxg_instructions (u : Zxs) : Int32 := u.2.2.2.2.2.2.2.2.2
def zxs_instructions (u : Zxs) (v : Int32) : Zxs := (u.1, u.2.1, u.2.2.1, u.2.2.2.1, u.2.2.2.2.1, u.2.2.2.2.2.1, u.2.2.2.2.2.2.1, u.2.2.2.2.2.2.2.1, u.2.2.2.2.2.2.2.2.1, v)
def ZxW (k : Zxk) (u : Zxs) : va_W := [(zxa_this k, .inr (0, [.ref (zxa_words k), .ref (zxa_bytes k), .int (zxg_pc u), .int (zxg_sp u), .int (zxg_lv u), .int (zxg_cpp u), .int (zxg_top u), .int (zxg_state u), .int (zxg_cycles u), .int (zxg_instructions u)])), (zxa_words k, .inl (zxc_words k, 256, .inl (zxg_words u))), (zxa_bytes k, .inl (zxc_bytes k, 512, .inl (zxg_bytes u)))]
def ZxT (k : Zxk) : List (ClassId × FieldType) := [(zxc_words k, .int), (zxc_bytes k, .byte)]
def ZxL (k : Zxk) : List Nat := [zxa_this k, zxa_words k, zxa_bytes k]
theorem wsX0_step_init : Cond.initialized RX0 ∈ wsX0_step := List.mem_cons_of_mem _ (List.mem_append_left _ (List.mem_append_left _ (List.mem_of_getElem? (i := 4) rfl)))
theorem wsX0_step_good : ∀ w ∈ wsX0_step, w ∈ wsX0_step ∧ ((w.onTables && w.keeps) = true ∨ ∃ ty, w = .arrayClass ty) := fun w h => ⟨h, good_of_word (List.all_eq_true.mp (show (wsX0_step).all goodWord = true by decide +kernel) w h)⟩
theorem wsX0_step_fld : ∀ w ∈ u_ws RX0 TX0 10, w ∈ wsX0_step := fun _ h => List.mem_cons_of_mem _ (List.mem_append_right _ h)
theorem wsX0_step_f_words : Cond.fieldLink RX0 9 "StackComputer" "words" "[I" ∈ wsX0_step := List.mem_cons_of_mem _ (List.mem_append_left _ (List.mem_append_right _ (List.mem_append_left _ (List.mem_of_getElem? (i := 3) rfl))))
theorem wsX0_step_f_bytes : Cond.fieldLink RX0 13 "StackComputer" "bytes" "[B" ∈ wsX0_step := List.mem_cons_of_mem _ (List.mem_append_left _ (List.mem_append_left _ (List.mem_of_getElem? (i := 15) rfl)))
theorem wsX0_step_f_pc : Cond.fieldLink RX0 17 "StackComputer" "pc" "I" ∈ wsX0_step := List.mem_cons_of_mem _ (List.mem_append_left _ (List.mem_append_left _ (List.mem_of_getElem? (i := 0) rfl)))
theorem wsX0_step_f_sp : Cond.fieldLink RX0 21 "StackComputer" "sp" "I" ∈ wsX0_step := List.mem_cons_of_mem _ (List.mem_append_left _ (List.mem_append_right _ (List.mem_append_left _ (List.mem_of_getElem? (i := 2) rfl))))
theorem wsX0_step_f_lv : Cond.fieldLink RX0 24 "StackComputer" "lv" "I" ∈ wsX0_step := List.mem_cons_of_mem _ (List.mem_append_left _ (List.mem_append_right _ (List.mem_append_right _ (List.mem_append_left _ (List.mem_of_getElem? (i := 6) rfl)))))
theorem wsX0_step_f_cpp : Cond.fieldLink RX0 27 "StackComputer" "cpp" "I" ∈ wsX0_step := List.mem_cons_of_mem _ (List.mem_append_left _ (List.mem_append_right _ (List.mem_append_right _ (List.mem_append_right _ (List.mem_append_left _ (List.mem_of_getElem? (i := 11) rfl))))))
theorem wsX0_step_f_top : Cond.fieldLink RX0 30 "StackComputer" "top" "I" ∈ wsX0_step := List.mem_cons_of_mem _ (List.mem_append_left _ (List.mem_append_left _ (List.mem_of_getElem? (i := 1) rfl)))
theorem wsX0_step_f_state : Cond.fieldLink RX0 33 "StackComputer" "state" "I" ∈ wsX0_step := List.mem_cons_of_mem _ (List.mem_append_left _ (List.mem_append_left _ (List.mem_of_getElem? (i := 10) rfl)))
theorem wsX0_step_f_cycles : Cond.fieldLink RX0 36 "StackComputer" "cycles" "I" ∈ wsX0_step := List.mem_cons_of_mem _ (List.mem_append_left _ (List.mem_append_left _ (List.mem_of_getElem? (i := 20) rfl)))
theorem wsX0_step_f_instructions : Cond.fieldLink RX0 39 "StackComputer" "instructions" "I" ∈ wsX0_step := List.mem_cons_of_mem _ (List.mem_append_left _ (List.mem_append_left _ (List.mem_of_getElem? (i := 21) rfl)))

def ZxP (k : Zxk) (u : Zxs) (H : Heap) : Prop := va_P k.1 vwCl (ZxW k u) H
def ZxK (k : Zxk) (U : State) : Prop := va_K k.1 vwCl (ZxT k) U
def ZxA (k : Zxk) : Nat → Prop := fun q => q ∈ ZxL k
def ZxD (k : Zxk) : Prop := (ZxL k).Nodup
theorem zx_D {k : Zxk} (h : ZxD k) (u : Zxs) : va_D (ZxA k) (ZxW k u) := z_Dof (show ((ZxW k u).map Prod.fst).Nodup from h) (fun _ h => h)
def ZxC (p : Program) (s : State) (m : MethodId) (args : Array Value) (c : Code) (cc : ByteArray) (nL : Nat) (k : Zxk) : Prop := CallFix p m c cc nL s args wsX0_step RX0 ∧ ZxK k s ∧ ZxD k
def ZxB (k : Zxk) (av : List Value) (u : Zxs) : Array Value → State → Prop := fun a U => a = av.toArray ∧ ZxP k u U.heap ∧ ZxK k U
def ZxQ (k : Zxk) (v : Option Value) (u' : Zxs) : Array Value → State → Outcome → State → Prop := fun _ st o t => o = .returned v ∧ ZxP k u' t.heap ∧ va_F (ZxA k) st t
theorem zx_blind {k : Zxk} {av : List Value} {u : Zxs} : FrameBlind (ZxB k av u) := fun a U g mk q => ⟨q.1, q.2.1, va_K.moved (u := U) (U := U.calling g mk a) (Vm.Alike.refl U.vm) q.2.2⟩
section ZxRows
variable {p : Program} {l : Launch} {e : Env} {R : Room} {s : State} {m : MethodId} {args : Array Value} {below : List Frame} {meth : Method} {c : Code} {H : Heap} {locs : List Loc} {Q : State → Prop} {cc : ByteArray} {pc nL : Nat} {ls : Array Slot} {rest : List Value} {k : Zxk} {u : Zxs} {H0 : Heap}
theorem zxE_in {y : MethodName} {maxL d : Nat} {ret : Option FieldType} {av : List Value} {v : Option Value} {u' : Zxs} (hy : plainName y.cls = true) (hyc : y.cls = RX0) (hm : (lg_sl av).length ≤ maxL) (Dk : ZxD k)
    (body : ∀ (p : Program) (e : Env) (s : State) (m : MethodId) (below : List Frame) (meth : Method) (c : Code) (ls : Array Slot), ZxC p s m av.toArray c cc maxL k → meth.sig.returnType = ret → meth.locks = false → ZxP k u s.heap → lv_has ls maxL (lv_args 0 av) →
      W p l e (zrm d) s m av.toArray below meth c s.heap [] 0 0 (MQ below (ZxQ k v u') av.toArray s 0 0 (ZxA k)) (F0 m 0 ls [])) :
    Met l y (.code y cc maxL ret :: wsX0_step) (zrm d) (ZxB k av u) (ZxQ k v u') 0 0 (ZxA k) := by
  refine Met.ofW (cc := cc) (maxL := maxL) (ret := ret) hy rfl ?_
  intro p e s m args below meth c s₁ B hml hv
  obtain ⟨rfl, hP, hK⟩ := hv
  have hts := atoms_spec (ws := Cond.code y cc maxL ret :: wsX0_step) B.pre
  have hown : s.vm.findClass RX0 = some m.cls := by rw [← hyc]; exact findClass_of_methodNamed B.named
  rw [lg_entry_eq]
  exact body p e s m below meth c _ ⟨⟨B.exec, B.bytes, hml, hown, fun w h => hts w (List.mem_cons_of_mem _ h)⟩, hK, Dk⟩ B.returns B.notSynchronized hP (lv_entry av hm)
theorem zxE_inR {y : MethodName} {maxL d : Nat} {ret : Option FieldType} {av : List Value} {r : Int32} (hy : plainName y.cls = true) (hyc : y.cls = RX0) (hm : (lg_sl av).length ≤ maxL) (Dk : ZxD k)
    (body : ∀ (p : Program) (e : Env) (s : State) (m : MethodId) (below : List Frame) (meth : Method) (c : Code) (ls : Array Slot), ZxC p s m av.toArray c cc maxL k → meth.sig.returnType = ret → meth.locks = false → ZxP k u s.heap → lv_has ls maxL (lv_args 0 av) →
      W p l e (zrm d) s m av.toArray below meth c s.heap [] 0 0 (MQ below (QcRead r) av.toArray s 0 0 (fun _ => False)) (F0 m 0 ls [])) :
    Met l y (.code y cc maxL ret :: wsX0_step) (zrm d) (ZxB k av u) (QcRead r) 0 0 (fun _ => False) := by
  refine Met.ofW (cc := cc) (maxL := maxL) (ret := ret) hy rfl ?_
  intro p e s m args below meth c s₁ B hml hv
  obtain ⟨rfl, hP, hK⟩ := hv
  have hts := atoms_spec (ws := Cond.code y cc maxL ret :: wsX0_step) B.pre
  have hown : s.vm.findClass RX0 = some m.cls := by rw [← hyc]; exact findClass_of_methodNamed B.named
  rw [lg_entry_eq]
  exact body p e s m below meth c _ ⟨⟨B.exec, B.bytes, hml, hown, fun w h => hts w (List.mem_cons_of_mem _ h)⟩, hK, Dk⟩ B.returns B.notSynchronized hP (lv_entry av hm)
theorem zx_vret {u' u1 : Zxs} (C : ZxC p s m args c cc nL k) (hr : meth.sig.returnType = none) (hlk : meth.locks = false) (hP : ZxP k u1 H) (hS : va_S (ZxA k) s.heap H locs) (eu : u' = u1) (hdg : decode cc pc = .ok (.return_, 1)) :
    W p l e R s m args below meth c H locs 0 0 (MQ below (ZxQ k none u') args s 0 0 (ZxA k)) (F0 m pc ls []) := by
  subst eu
  exact W.vret C.1.1 C.1.2.1 hr (fun t ht _ => ⟨rfl, by rw [ht]; exact hP, hS.F ht⟩) hS.2.2 hdg (hlocks := hlk)
theorem zx_iret {F : Int32 × Zxs} {v : Int32} {u1 : Zxs} (C : ZxC p s m args c cc nL k) (hr : meth.sig.returnType = some .int) (hlk : meth.locks = false) (hP : ZxP k u1 H) (hS : va_S (ZxA k) s.heap H locs) (eu : F = (v, u1)) (hdg : decode cc pc = .ok (.ireturn, 1)) :
    W p l e R s m args below meth c H locs 0 0 (MQ below (ZxQ k (some (.int F.1)) F.2) args s 0 0 (ZxA k)) (F0 m pc ls [.int v]) := by
  subst eu
  exact W.iret C.1.1 C.1.2.1 hr (fun t ht _ => ⟨rfl, by rw [ht]; exact hP, hS.F ht⟩) hS.2.2 hdg (hlocks := hlk)
theorem zx_rret {ty : FieldType} {r v : Int32} (C : ZxC p s m args c cc nL k) (hr : meth.sig.returnType = some ty) (hn : narrow ty (.int v) = .int v) (hlk : meth.locks = false) (er : r = v) (hdg : decode cc pc = .ok (.ireturn, 1)) :
    W p l e R s m args below meth c s.heap [] 0 0 (MQ below (QcRead r) args s 0 0 (fun _ => False)) (F0 m pc ls [.int v]) := z_sret C.1.1 C.1.2.1 hr hn hlk er hdg
theorem zx_cb {y : MethodName} {bytes : ByteArray} {maxL index n d : Nat} {ret : Option FieldType} (C : ZxC p s m args c cc nL k) (h1 : Cond.code y bytes maxL ret ∈ wsX0_step) (h2 : Cond.methodLink RX0 index y ∈ wsX0_step) (hyc : y.cls = RX0)
    (hd : y.cls ≠ "java/lang/invoke/MethodHandle" ∧ y.cls ≠ "java/lang/invoke/VarHandle" ∧ (parseMethodDescriptor y.desc).map (fun d => d.parameters.length) = some n) (hR : d + 1 ≤ R.frames ∧ 8 + (maxL + 11) + 40 * d ≤ R.locals) :
    CallB R s args RX0 index y bytes maxL ret (.code y bytes maxL ret :: wsX0_step) (zrm d) 0 0 n :=
  callB_of n C.1.2.2.2.2 (fun w h => by
    rcases List.mem_cons.mp h with rfl | h
    · exact wsX0_step_good _ h1
    · exact wsX0_step_good _ h) rfl rfl rfl (by rw [hyc]; exact C.1.2.2.2.2 _ wsX0_step_init) (C.1.2.2.2.2 _ h2) hd hR
theorem zx_callS {y : MethodName} {bytes : ByteArray} {maxL index n d : Nat} {ret : Option FieldType} {r : Int32} {As : List Value} (C : ZxC p s m args c cc nL k) (hM : Met l y (.code y bytes maxL ret :: wsX0_step) (zrm d) (fun a _ => a = As.toArray) (QcRead r) 0 0 (fun _ => False)) (h1 : Cond.code y bytes maxL ret ∈ wsX0_step) (h2 : Cond.methodLink RX0 index y ∈ wsX0_step) (h3 : Cond.static y ∈ wsX0_step) (hyc : y.cls = RX0)
    (hd : y.cls ≠ "java/lang/invoke/MethodHandle" ∧ y.cls ≠ "java/lang/invoke/VarHandle" ∧ (parseMethodDescriptor y.desc).map (fun d => d.parameters.length) = some n) (hsz : ls.size = nL) (hR : d + 1 ≤ R.frames ∧ 8 + (maxL + 11) + 40 * d ≤ R.locals) (hw : (rest.map fun v => v.category).sum ≤ 8) (hn : As.length = n) (hdg : decode cc pc = .ok (.invokestatic index, 3))
    (kk : W p l e R s m args below meth c H locs 0 0 Q (F0 m (pc + 3) ls (.int r :: rest))) : W p l e R s m args below meth c H locs 0 0 Q (F0 m pc ls (As.reverse ++ rest)) :=
  W.callR (W.runS C.1 hM ⟨zx_cb C h1 h2 hyc hd hR, C.1.2.2.2.2 _ h3⟩ preEq rfl hn hsz rfl (lv_room hw) hdg ⟨Nat.zero_le _, Nat.zero_le _⟩) kk
theorem zx_preV {As : List Value} (C : ZxC p s m args c cc nL k) (hP : ZxP k u H) : PreV s H RX0 (zxa_this k) (ZxB k (.ref (zxa_this k) :: As) u) As :=
  ⟨zx_blind, va_recv C.2.1 hP (ci := 0) (q := (RX0, TX0, 10)) (q0 := 0) rfl rfl, fun U hU hW => ⟨rfl, by rw [hU]; exact hP, va_K.moved hW.alike C.2.1⟩⟩
theorem zx_callR {y : MethodName} {bytes : ByteArray} {maxL index n d : Nat} {ret : Option FieldType} {r : Int32} {As : List Value} (C : ZxC p s m args c cc nL k) (hM : Met l y (.code y bytes maxL ret :: wsX0_step) (zrm d) (ZxB k (.ref (zxa_this k) :: As) u) (QcRead r) 0 0 (fun _ => False)) (h1 : Cond.code y bytes maxL ret ∈ wsX0_step) (h2 : Cond.methodLink RX0 index y ∈ wsX0_step) (h3 : Cond.instanceMethod y ∈ wsX0_step) (h4 : Cond.selects RX0 y y ∈ wsX0_step) (hyc : y.cls = RX0)
    (hd : y.cls ≠ "java/lang/invoke/MethodHandle" ∧ y.cls ≠ "java/lang/invoke/VarHandle" ∧ (parseMethodDescriptor y.desc).map (fun d => d.parameters.length) = some n) (hP : ZxP k u H) (hsz : ls.size = nL) (hR : d + 1 ≤ R.frames ∧ 8 + (maxL + 11) + 40 * d ≤ R.locals) (hw : (rest.map fun v => v.category).sum ≤ 8) (hn : As.length = n) (hdg : decode cc pc = .ok (.invokevirtual index, 3))
    (kk : W p l e R s m args below meth c H locs 0 0 Q (F0 m (pc + 3) ls (.int r :: rest))) : W p l e R s m args below meth c H locs 0 0 Q (F0 m pc ls (As.reverse ++ .ref (zxa_this k) :: rest)) :=
  W.callR (W.runV C.1 hM ⟨zx_cb C h1 h2 hyc hd hR, C.1.2.2.2.2 _ h3, C.1.2.2.2.2 _ h4⟩ (zx_preV C hP) rfl hn hsz rfl (lv_room hw) hdg ⟨Nat.zero_le _, Nat.zero_le _⟩) kk
theorem zx_callV {y : MethodName} {bytes : ByteArray} {maxL index n d : Nat} {ret : Option FieldType} {v : Option Value} {u' : Zxs} {As : List Value} (C : ZxC p s m args c cc nL k) (hM : Met l y (.code y bytes maxL ret :: wsX0_step) (zrm d) (ZxB k (.ref (zxa_this k) :: As) u) (ZxQ k v u') 0 0 (ZxA k)) (h1 : Cond.code y bytes maxL ret ∈ wsX0_step) (h2 : Cond.methodLink RX0 index y ∈ wsX0_step) (h3 : Cond.instanceMethod y ∈ wsX0_step) (h4 : Cond.selects RX0 y y ∈ wsX0_step) (hyc : y.cls = RX0)
    (hd : y.cls ≠ "java/lang/invoke/MethodHandle" ∧ y.cls ≠ "java/lang/invoke/VarHandle" ∧ (parseMethodDescriptor y.desc).map (fun d => d.parameters.length) = some n) (hP : ZxP k u H) (hS : va_S (ZxA k) H0 H locs) (hsz : ls.size = nL) (hR : d + 1 ≤ R.frames ∧ 8 + (maxL + 11) + 40 * d ≤ R.locals) (hw : (rest.map fun v => v.category).sum ≤ 8) (hn : As.length = n) (hdg : decode cc pc = .ok (.invokevirtual index, 3))
    (kk : ∀ (H1 : Heap) (locs1 : List Loc), ZxP k u' H1 → va_S (ZxA k) H0 H1 locs1 → W p l e R s m args below meth c H1 locs1 0 0 Q (F0 m (pc + 3) ls (v.toList ++ rest))) : W p l e R s m args below meth c H locs 0 0 Q (F0 m pc ls (As.reverse ++ .ref (zxa_this k) :: rest)) := by
  intro T hT X
  obtain ⟨v', st₀, t, T', L, h0, X', hL, e1, e2, ⟨hv, hPt, hz, hk⟩, st⟩ := va_runV C.1 hM ⟨zx_cb C h1 h2 hyc hd hR, C.1.2.2.2.2 _ h3, C.1.2.2.2.2 _ h4⟩ (zx_preV C hP) rfl hn hsz rfl (lv_room hw) hdg ⟨Nat.zero_le _, Nat.zero_le _⟩ T hT X
  cases hv
  rw [h0] at hz hk
  obtain ⟨t2, a1, b1⟩ := kk T'.heap (locs ++ L) (by rw [e1]; exact hPt)
    ⟨Nat.le_trans hS.1 (by rw [e1]; exact hz), fun q g1 g2 => by rw [e1, hk q (Nat.lt_of_lt_of_le g1 hS.1) g2]; exact hS.2.1 q g1 g2, fun q hq => by
      rcases List.mem_append.mp hq with h | h
      · exact hS.2.2 q h
      · exact hL q h⟩ T' rfl X'
  exact ⟨t2, st t2 a1, b1⟩

theorem zxG_words {cells slots : Nat} (C : ZxC p s m args c cc nL k) (hP : ZxP k u H) (hdg : decode cc pc = .ok (.getfield 9, 3)) (kk : W p l e R s m args below meth c H locs cells slots Q (F0 m (pc + 3) ls (.ref (zxa_words k) :: rest))) : W p l e R s m args below meth c H locs cells slots Q (F0 m pc ls (.ref (zxa_this k) :: rest)) :=
  va_get (D := k.1) (ci := 0) (v := .ref (zxa_words k)) (C := RX0) (T := TX0) (N := 10) C.1.1 C.1.2.1 C.1.2.2.2.2 wsX0_step_fld C.1.2.2.2.1 C.2.1 hP 0 rfl rfl 0 (by decide) (C.1.2.2.2.2 _ wsX0_step_f_words) (fun _ h => h) rfl hdg kk
theorem zxG_bytes {cells slots : Nat} (C : ZxC p s m args c cc nL k) (hP : ZxP k u H) (hdg : decode cc pc = .ok (.getfield 13, 3)) (kk : W p l e R s m args below meth c H locs cells slots Q (F0 m (pc + 3) ls (.ref (zxa_bytes k) :: rest))) : W p l e R s m args below meth c H locs cells slots Q (F0 m pc ls (.ref (zxa_this k) :: rest)) :=
  va_get (D := k.1) (ci := 0) (v := .ref (zxa_bytes k)) (C := RX0) (T := TX0) (N := 10) C.1.1 C.1.2.1 C.1.2.2.2.2 wsX0_step_fld C.1.2.2.2.1 C.2.1 hP 0 rfl rfl 1 (by decide) (C.1.2.2.2.2 _ wsX0_step_f_bytes) (fun _ h => h) rfl hdg kk
theorem zxG_pc {cells slots : Nat} (C : ZxC p s m args c cc nL k) (hP : ZxP k u H) (hdg : decode cc pc = .ok (.getfield 17, 3)) (kk : W p l e R s m args below meth c H locs cells slots Q (F0 m (pc + 3) ls (.int (zxg_pc u) :: rest))) : W p l e R s m args below meth c H locs cells slots Q (F0 m pc ls (.ref (zxa_this k) :: rest)) :=
  va_get (D := k.1) (ci := 0) (v := .int (zxg_pc u)) (C := RX0) (T := TX0) (N := 10) C.1.1 C.1.2.1 C.1.2.2.2.2 wsX0_step_fld C.1.2.2.2.1 C.2.1 hP 0 rfl rfl 2 (by decide) (C.1.2.2.2.2 _ wsX0_step_f_pc) (fun _ h => h) rfl hdg kk
theorem zxP_pc {v : Int32} (C : ZxC p s m args c cc nL k) (hP : ZxP k u H) (hS : va_S (ZxA k) H0 H locs) (hdg : decode cc pc = .ok (.putfield 17, 3)) (kk : ∀ (u1 : Zxs) (H1 : Heap) (locs1 : List Loc), u1 = zxs_pc u v → ZxP k u1 H1 → va_S (ZxA k) H0 H1 locs1 → W p l e R s m args below meth c H1 locs1 0 0 Q (F0 m (pc + 3) ls rest)) : W p l e R s m args below meth c H locs 0 0 Q (F0 m pc ls (.int v :: .ref (zxa_this k) :: rest)) :=
  va_put (D := k.1) (ci := 0) (v := .int v) (ty := .int) (C := RX0) (T := TX0) (N := 10) C.1.1 C.1.2.1 C.1.2.2.2.2 wsX0_step_fld tyX0 tyX0_ok nmX0 C.1.2.2.2.1 C.2.1 hP (zx_D C.2.2 u) hS 0 rfl rfl 2 (by decide) (C.1.2.2.2.2 _ wsX0_step_f_pc) (fun _ h => h) rfl (by decide +kernel) rfl rfl (Nat.le_of_ble_eq_true rfl) hdg (fun H1 locs1 hP1 _ hS1 => kk _ H1 locs1 rfl hP1 hS1)
theorem zxG_sp {cells slots : Nat} (C : ZxC p s m args c cc nL k) (hP : ZxP k u H) (hdg : decode cc pc = .ok (.getfield 21, 3)) (kk : W p l e R s m args below meth c H locs cells slots Q (F0 m (pc + 3) ls (.int (zxg_sp u) :: rest))) : W p l e R s m args below meth c H locs cells slots Q (F0 m pc ls (.ref (zxa_this k) :: rest)) :=
  va_get (D := k.1) (ci := 0) (v := .int (zxg_sp u)) (C := RX0) (T := TX0) (N := 10) C.1.1 C.1.2.1 C.1.2.2.2.2 wsX0_step_fld C.1.2.2.2.1 C.2.1 hP 0 rfl rfl 3 (by decide) (C.1.2.2.2.2 _ wsX0_step_f_sp) (fun _ h => h) rfl hdg kk
theorem zxP_sp {v : Int32} (C : ZxC p s m args c cc nL k) (hP : ZxP k u H) (hS : va_S (ZxA k) H0 H locs) (hdg : decode cc pc = .ok (.putfield 21, 3)) (kk : ∀ (u1 : Zxs) (H1 : Heap) (locs1 : List Loc), u1 = zxs_sp u v → ZxP k u1 H1 → va_S (ZxA k) H0 H1 locs1 → W p l e R s m args below meth c H1 locs1 0 0 Q (F0 m (pc + 3) ls rest)) : W p l e R s m args below meth c H locs 0 0 Q (F0 m pc ls (.int v :: .ref (zxa_this k) :: rest)) :=
  va_put (D := k.1) (ci := 0) (v := .int v) (ty := .int) (C := RX0) (T := TX0) (N := 10) C.1.1 C.1.2.1 C.1.2.2.2.2 wsX0_step_fld tyX0 tyX0_ok nmX0 C.1.2.2.2.1 C.2.1 hP (zx_D C.2.2 u) hS 0 rfl rfl 3 (by decide) (C.1.2.2.2.2 _ wsX0_step_f_sp) (fun _ h => h) rfl (by decide +kernel) rfl rfl (Nat.le_of_ble_eq_true rfl) hdg (fun H1 locs1 hP1 _ hS1 => kk _ H1 locs1 rfl hP1 hS1)
theorem zxG_lv {cells slots : Nat} (C : ZxC p s m args c cc nL k) (hP : ZxP k u H) (hdg : decode cc pc = .ok (.getfield 24, 3)) (kk : W p l e R s m args below meth c H locs cells slots Q (F0 m (pc + 3) ls (.int (zxg_lv u) :: rest))) : W p l e R s m args below meth c H locs cells slots Q (F0 m pc ls (.ref (zxa_this k) :: rest)) :=
  va_get (D := k.1) (ci := 0) (v := .int (zxg_lv u)) (C := RX0) (T := TX0) (N := 10) C.1.1 C.1.2.1 C.1.2.2.2.2 wsX0_step_fld C.1.2.2.2.1 C.2.1 hP 0 rfl rfl 4 (by decide) (C.1.2.2.2.2 _ wsX0_step_f_lv) (fun _ h => h) rfl hdg kk
theorem zxP_lv {v : Int32} (C : ZxC p s m args c cc nL k) (hP : ZxP k u H) (hS : va_S (ZxA k) H0 H locs) (hdg : decode cc pc = .ok (.putfield 24, 3)) (kk : ∀ (u1 : Zxs) (H1 : Heap) (locs1 : List Loc), u1 = zxs_lv u v → ZxP k u1 H1 → va_S (ZxA k) H0 H1 locs1 → W p l e R s m args below meth c H1 locs1 0 0 Q (F0 m (pc + 3) ls rest)) : W p l e R s m args below meth c H locs 0 0 Q (F0 m pc ls (.int v :: .ref (zxa_this k) :: rest)) :=
  va_put (D := k.1) (ci := 0) (v := .int v) (ty := .int) (C := RX0) (T := TX0) (N := 10) C.1.1 C.1.2.1 C.1.2.2.2.2 wsX0_step_fld tyX0 tyX0_ok nmX0 C.1.2.2.2.1 C.2.1 hP (zx_D C.2.2 u) hS 0 rfl rfl 4 (by decide) (C.1.2.2.2.2 _ wsX0_step_f_lv) (fun _ h => h) rfl (by decide +kernel) rfl rfl (Nat.le_of_ble_eq_true rfl) hdg (fun H1 locs1 hP1 _ hS1 => kk _ H1 locs1 rfl hP1 hS1)
theorem zxG_cpp {cells slots : Nat} (C : ZxC p s m args c cc nL k) (hP : ZxP k u H) (hdg : decode cc pc = .ok (.getfield 27, 3)) (kk : W p l e R s m args below meth c H locs cells slots Q (F0 m (pc + 3) ls (.int (zxg_cpp u) :: rest))) : W p l e R s m args below meth c H locs cells slots Q (F0 m pc ls (.ref (zxa_this k) :: rest)) :=
  va_get (D := k.1) (ci := 0) (v := .int (zxg_cpp u)) (C := RX0) (T := TX0) (N := 10) C.1.1 C.1.2.1 C.1.2.2.2.2 wsX0_step_fld C.1.2.2.2.1 C.2.1 hP 0 rfl rfl 5 (by decide) (C.1.2.2.2.2 _ wsX0_step_f_cpp) (fun _ h => h) rfl hdg kk
theorem zxP_cpp {v : Int32} (C : ZxC p s m args c cc nL k) (hP : ZxP k u H) (hS : va_S (ZxA k) H0 H locs) (hdg : decode cc pc = .ok (.putfield 27, 3)) (kk : ∀ (u1 : Zxs) (H1 : Heap) (locs1 : List Loc), u1 = zxs_cpp u v → ZxP k u1 H1 → va_S (ZxA k) H0 H1 locs1 → W p l e R s m args below meth c H1 locs1 0 0 Q (F0 m (pc + 3) ls rest)) : W p l e R s m args below meth c H locs 0 0 Q (F0 m pc ls (.int v :: .ref (zxa_this k) :: rest)) :=
  va_put (D := k.1) (ci := 0) (v := .int v) (ty := .int) (C := RX0) (T := TX0) (N := 10) C.1.1 C.1.2.1 C.1.2.2.2.2 wsX0_step_fld tyX0 tyX0_ok nmX0 C.1.2.2.2.1 C.2.1 hP (zx_D C.2.2 u) hS 0 rfl rfl 5 (by decide) (C.1.2.2.2.2 _ wsX0_step_f_cpp) (fun _ h => h) rfl (by decide +kernel) rfl rfl (Nat.le_of_ble_eq_true rfl) hdg (fun H1 locs1 hP1 _ hS1 => kk _ H1 locs1 rfl hP1 hS1)
theorem zxG_top {cells slots : Nat} (C : ZxC p s m args c cc nL k) (hP : ZxP k u H) (hdg : decode cc pc = .ok (.getfield 30, 3)) (kk : W p l e R s m args below meth c H locs cells slots Q (F0 m (pc + 3) ls (.int (zxg_top u) :: rest))) : W p l e R s m args below meth c H locs cells slots Q (F0 m pc ls (.ref (zxa_this k) :: rest)) :=
  va_get (D := k.1) (ci := 0) (v := .int (zxg_top u)) (C := RX0) (T := TX0) (N := 10) C.1.1 C.1.2.1 C.1.2.2.2.2 wsX0_step_fld C.1.2.2.2.1 C.2.1 hP 0 rfl rfl 6 (by decide) (C.1.2.2.2.2 _ wsX0_step_f_top) (fun _ h => h) rfl hdg kk
theorem zxP_top {v : Int32} (C : ZxC p s m args c cc nL k) (hP : ZxP k u H) (hS : va_S (ZxA k) H0 H locs) (hdg : decode cc pc = .ok (.putfield 30, 3)) (kk : ∀ (u1 : Zxs) (H1 : Heap) (locs1 : List Loc), u1 = zxs_top u v → ZxP k u1 H1 → va_S (ZxA k) H0 H1 locs1 → W p l e R s m args below meth c H1 locs1 0 0 Q (F0 m (pc + 3) ls rest)) : W p l e R s m args below meth c H locs 0 0 Q (F0 m pc ls (.int v :: .ref (zxa_this k) :: rest)) :=
  va_put (D := k.1) (ci := 0) (v := .int v) (ty := .int) (C := RX0) (T := TX0) (N := 10) C.1.1 C.1.2.1 C.1.2.2.2.2 wsX0_step_fld tyX0 tyX0_ok nmX0 C.1.2.2.2.1 C.2.1 hP (zx_D C.2.2 u) hS 0 rfl rfl 6 (by decide) (C.1.2.2.2.2 _ wsX0_step_f_top) (fun _ h => h) rfl (by decide +kernel) rfl rfl (Nat.le_of_ble_eq_true rfl) hdg (fun H1 locs1 hP1 _ hS1 => kk _ H1 locs1 rfl hP1 hS1)
theorem zxG_state {cells slots : Nat} (C : ZxC p s m args c cc nL k) (hP : ZxP k u H) (hdg : decode cc pc = .ok (.getfield 33, 3)) (kk : W p l e R s m args below meth c H locs cells slots Q (F0 m (pc + 3) ls (.int (zxg_state u) :: rest))) : W p l e R s m args below meth c H locs cells slots Q (F0 m pc ls (.ref (zxa_this k) :: rest)) :=
  va_get (D := k.1) (ci := 0) (v := .int (zxg_state u)) (C := RX0) (T := TX0) (N := 10) C.1.1 C.1.2.1 C.1.2.2.2.2 wsX0_step_fld C.1.2.2.2.1 C.2.1 hP 0 rfl rfl 7 (by decide) (C.1.2.2.2.2 _ wsX0_step_f_state) (fun _ h => h) rfl hdg kk
theorem zxP_state {v : Int32} (C : ZxC p s m args c cc nL k) (hP : ZxP k u H) (hS : va_S (ZxA k) H0 H locs) (hdg : decode cc pc = .ok (.putfield 33, 3)) (kk : ∀ (u1 : Zxs) (H1 : Heap) (locs1 : List Loc), u1 = zxs_state u v → ZxP k u1 H1 → va_S (ZxA k) H0 H1 locs1 → W p l e R s m args below meth c H1 locs1 0 0 Q (F0 m (pc + 3) ls rest)) : W p l e R s m args below meth c H locs 0 0 Q (F0 m pc ls (.int v :: .ref (zxa_this k) :: rest)) :=
  va_put (D := k.1) (ci := 0) (v := .int v) (ty := .int) (C := RX0) (T := TX0) (N := 10) C.1.1 C.1.2.1 C.1.2.2.2.2 wsX0_step_fld tyX0 tyX0_ok nmX0 C.1.2.2.2.1 C.2.1 hP (zx_D C.2.2 u) hS 0 rfl rfl 7 (by decide) (C.1.2.2.2.2 _ wsX0_step_f_state) (fun _ h => h) rfl (by decide +kernel) rfl rfl (Nat.le_of_ble_eq_true rfl) hdg (fun H1 locs1 hP1 _ hS1 => kk _ H1 locs1 rfl hP1 hS1)
theorem zxG_cycles {cells slots : Nat} (C : ZxC p s m args c cc nL k) (hP : ZxP k u H) (hdg : decode cc pc = .ok (.getfield 36, 3)) (kk : W p l e R s m args below meth c H locs cells slots Q (F0 m (pc + 3) ls (.int (zxg_cycles u) :: rest))) : W p l e R s m args below meth c H locs cells slots Q (F0 m pc ls (.ref (zxa_this k) :: rest)) :=
  va_get (D := k.1) (ci := 0) (v := .int (zxg_cycles u)) (C := RX0) (T := TX0) (N := 10) C.1.1 C.1.2.1 C.1.2.2.2.2 wsX0_step_fld C.1.2.2.2.1 C.2.1 hP 0 rfl rfl 8 (by decide) (C.1.2.2.2.2 _ wsX0_step_f_cycles) (fun _ h => h) rfl hdg kk
theorem zxP_cycles {v : Int32} (C : ZxC p s m args c cc nL k) (hP : ZxP k u H) (hS : va_S (ZxA k) H0 H locs) (hdg : decode cc pc = .ok (.putfield 36, 3)) (kk : ∀ (u1 : Zxs) (H1 : Heap) (locs1 : List Loc), u1 = zxs_cycles u v → ZxP k u1 H1 → va_S (ZxA k) H0 H1 locs1 → W p l e R s m args below meth c H1 locs1 0 0 Q (F0 m (pc + 3) ls rest)) : W p l e R s m args below meth c H locs 0 0 Q (F0 m pc ls (.int v :: .ref (zxa_this k) :: rest)) :=
  va_put (D := k.1) (ci := 0) (v := .int v) (ty := .int) (C := RX0) (T := TX0) (N := 10) C.1.1 C.1.2.1 C.1.2.2.2.2 wsX0_step_fld tyX0 tyX0_ok nmX0 C.1.2.2.2.1 C.2.1 hP (zx_D C.2.2 u) hS 0 rfl rfl 8 (by decide) (C.1.2.2.2.2 _ wsX0_step_f_cycles) (fun _ h => h) rfl (by decide +kernel) rfl rfl (Nat.le_of_ble_eq_true rfl) hdg (fun H1 locs1 hP1 _ hS1 => kk _ H1 locs1 rfl hP1 hS1)
theorem zxG_instructions {cells slots : Nat} (C : ZxC p s m args c cc nL k) (hP : ZxP k u H) (hdg : decode cc pc = .ok (.getfield 39, 3)) (kk : W p l e R s m args below meth c H locs cells slots Q (F0 m (pc + 3) ls (.int (zxg_instructions u) :: rest))) : W p l e R s m args below meth c H locs cells slots Q (F0 m pc ls (.ref (zxa_this k) :: rest)) :=
  va_get (D := k.1) (ci := 0) (v := .int (zxg_instructions u)) (C := RX0) (T := TX0) (N := 10) C.1.1 C.1.2.1 C.1.2.2.2.2 wsX0_step_fld C.1.2.2.2.1 C.2.1 hP 0 rfl rfl 9 (by decide) (C.1.2.2.2.2 _ wsX0_step_f_instructions) (fun _ h => h) rfl hdg kk
theorem zxP_instructions {v : Int32} (C : ZxC p s m args c cc nL k) (hP : ZxP k u H) (hS : va_S (ZxA k) H0 H locs) (hdg : decode cc pc = .ok (.putfield 39, 3)) (kk : ∀ (u1 : Zxs) (H1 : Heap) (locs1 : List Loc), u1 = zxs_instructions u v → ZxP k u1 H1 → va_S (ZxA k) H0 H1 locs1 → W p l e R s m args below meth c H1 locs1 0 0 Q (F0 m (pc + 3) ls rest)) : W p l e R s m args below meth c H locs 0 0 Q (F0 m pc ls (.int v :: .ref (zxa_this k) :: rest)) :=
  va_put (D := k.1) (ci := 0) (v := .int v) (ty := .int) (C := RX0) (T := TX0) (N := 10) C.1.1 C.1.2.1 C.1.2.2.2.2 wsX0_step_fld tyX0 tyX0_ok nmX0 C.1.2.2.2.1 C.2.1 hP (zx_D C.2.2 u) hS 0 rfl rfl 9 (by decide) (C.1.2.2.2.2 _ wsX0_step_f_instructions) (fun _ h => h) rfl (by decide +kernel) rfl rfl (Nat.le_of_ble_eq_true rfl) hdg (fun H1 locs1 hP1 _ hS1 => kk _ H1 locs1 rfl hP1 hS1)
theorem zxL_words {cells slots : Nat} {i : Int32} (C : ZxC p s m args c cc nL k) (hP : ZxP k u H) (hin : vp_in i 256) (hdg : decode cc pc = .ok (.iaload, 1)) (kk : W p l e R s m args below meth c H locs cells slots Q (F0 m (pc + 1) ls (.int (zxg_words u i.toNatClampNeg) :: rest))) : W p l e R s m args below meth c H locs cells slots Q (F0 m pc ls (.int i :: .ref (zxa_words k) :: rest)) :=
  va_iald (D := k.1) (f := zxg_words u) C.1.1 C.1.2.1 C.2.1 hP 1 0 rfl rfl hin hdg kk
theorem zxS_words {i v : Int32} (C : ZxC p s m args c cc nL k) (hP : ZxP k u H) (hS : va_S (ZxA k) H0 H locs) (hin : vp_in i 256) (hdg : decode cc pc = .ok (.iastore, 1)) (kk : ∀ (u1 : Zxs) (H1 : Heap) (locs1 : List Loc), u1 = zxs_words u (upd (zxg_words u) i.toNatClampNeg v) → ZxP k u1 H1 → va_S (ZxA k) H0 H1 locs1 → W p l e R s m args below meth c H1 locs1 0 0 Q (F0 m (pc + 1) ls rest)) : W p l e R s m args below meth c H locs 0 0 Q (F0 m pc ls (.int v :: .int i :: .ref (zxa_words k) :: rest)) :=
  va_iast (D := k.1) (f := zxg_words u) C.1.1 C.1.2.1 C.2.1 hP (zx_D C.2.2 u) hS 1 0 rfl rfl hin hdg (fun H1 locs1 hP1 _ hS1 => kk _ H1 locs1 rfl hP1 hS1)
theorem zxL_bytes {cells slots : Nat} {i : Int32} (C : ZxC p s m args c cc nL k) (hP : ZxP k u H) (hin : vp_in i 512) (hdg : decode cc pc = .ok (.baload, 1)) (kk : W p l e R s m args below meth c H locs cells slots Q (F0 m (pc + 1) ls (.int (zxg_bytes u i.toNatClampNeg) :: rest))) : W p l e R s m args below meth c H locs cells slots Q (F0 m pc ls (.int i :: .ref (zxa_bytes k) :: rest)) :=
  va_bald (D := k.1) (f := zxg_bytes u) C.1.1 C.1.2.1 C.2.1 hP 2 1 rfl rfl hin hdg kk
theorem zxS_bytes {i v : Int32} (C : ZxC p s m args c cc nL k) (hP : ZxP k u H) (hS : va_S (ZxA k) H0 H locs) (hin : vp_in i 512) (hdg : decode cc pc = .ok (.bastore, 1)) (kk : ∀ (u1 : Zxs) (H1 : Heap) (locs1 : List Loc), u1 = zxs_bytes u (upd (zxg_bytes u) i.toNatClampNeg (vp_nar .byte v)) → ZxP k u1 H1 → va_S (ZxA k) H0 H1 locs1 → W p l e R s m args below meth c H1 locs1 0 0 Q (F0 m (pc + 1) ls rest)) : W p l e R s m args below meth c H locs 0 0 Q (F0 m pc ls (.int v :: .int i :: .ref (zxa_bytes k) :: rest)) :=
  va_bast (D := k.1) (f := zxg_bytes u) C.1.1 C.1.2.1 C.2.1 hP (zx_D C.2.2 u) hS 2 1 rfl rfl hin hdg (fun H1 locs1 hP1 _ hS1 => kk _ H1 locs1 rfl hP1 hS1)
end ZxRows
theorem wsX0_step_c_isWord : Cond.code yX0_isWord cX0_isWord 1 (some .boolean) ∈ wsX0_step := List.mem_cons_of_mem _ (List.mem_append_left _ (List.mem_append_right _ (List.mem_append_left _ (List.mem_of_getElem? (i := 6) rfl))))
theorem wsX0_step_l_isWord : Cond.methodLink RX0 42 yX0_isWord ∈ wsX0_step := List.mem_cons_of_mem _ (List.mem_append_left _ (List.mem_append_right _ (List.mem_append_left _ (List.mem_of_getElem? (i := 4) rfl))))
theorem wsX0_step_s_isWord : Cond.static yX0_isWord ∈ wsX0_step := List.mem_cons_of_mem _ (List.mem_append_left _ (List.mem_append_right _ (List.mem_append_left _ (List.mem_of_getElem? (i := 5) rfl))))
theorem wsX0_step_c_areBytes : Cond.code yX0_areBytes cX0_areBytes 2 (some .boolean) ∈ wsX0_step := List.mem_cons_of_mem _ (List.mem_append_left _ (List.mem_append_left _ (List.mem_of_getElem? (i := 5) rfl)))
theorem wsX0_step_l_areBytes : Cond.methodLink RX0 53 yX0_areBytes ∈ wsX0_step := List.mem_cons_of_mem _ (List.mem_append_left _ (List.mem_append_left _ (List.mem_of_getElem? (i := 2) rfl)))
theorem wsX0_step_s_areBytes : Cond.static yX0_areBytes ∈ wsX0_step := List.mem_cons_of_mem _ (List.mem_append_left _ (List.mem_append_left _ (List.mem_of_getElem? (i := 3) rfl)))
theorem wsX0_step_c_fault : Cond.code yX0_fault cX0_fault 1 none ∈ wsX0_step := List.mem_cons_of_mem _ (List.mem_append_left _ (List.mem_append_left _ (List.mem_of_getElem? (i := 9) rfl)))
theorem wsX0_step_l_fault : Cond.methodLink RX0 74 yX0_fault ∈ wsX0_step := List.mem_cons_of_mem _ (List.mem_append_left _ (List.mem_append_left _ (List.mem_of_getElem? (i := 6) rfl)))
theorem wsX0_step_i_fault : Cond.instanceMethod yX0_fault ∈ wsX0_step := List.mem_cons_of_mem _ (List.mem_append_left _ (List.mem_append_left _ (List.mem_of_getElem? (i := 7) rfl)))
theorem wsX0_step_v_fault : Cond.selects RX0 yX0_fault yX0_fault ∈ wsX0_step := List.mem_cons_of_mem _ (List.mem_append_left _ (List.mem_append_left _ (List.mem_of_getElem? (i := 8) rfl)))
theorem wsX0_step_c_unsignedByte : Cond.code yX0_unsignedByte cX0_unsignedByte 2 (some .int) ∈ wsX0_step := List.mem_cons_of_mem _ (List.mem_append_left _ (List.mem_append_left _ (List.mem_of_getElem? (i := 14) rfl)))
theorem wsX0_step_l_unsignedByte : Cond.methodLink RX0 77 yX0_unsignedByte ∈ wsX0_step := List.mem_cons_of_mem _ (List.mem_append_left _ (List.mem_append_left _ (List.mem_of_getElem? (i := 11) rfl)))
theorem wsX0_step_i_unsignedByte : Cond.instanceMethod yX0_unsignedByte ∈ wsX0_step := List.mem_cons_of_mem _ (List.mem_append_left _ (List.mem_append_left _ (List.mem_of_getElem? (i := 12) rfl)))
theorem wsX0_step_v_unsignedByte : Cond.selects RX0 yX0_unsignedByte yX0_unsignedByte ∈ wsX0_step := List.mem_cons_of_mem _ (List.mem_append_left _ (List.mem_append_left _ (List.mem_of_getElem? (i := 13) rfl)))
theorem wsX0_step_c_finish : Cond.code yX0_finish cX0_finish 3 none ∈ wsX0_step := List.mem_cons_of_mem _ (List.mem_append_left _ (List.mem_append_left _ (List.mem_of_getElem? (i := 19) rfl)))
theorem wsX0_step_l_finish : Cond.methodLink RX0 81 yX0_finish ∈ wsX0_step := List.mem_cons_of_mem _ (List.mem_append_left _ (List.mem_append_left _ (List.mem_of_getElem? (i := 16) rfl)))
theorem wsX0_step_i_finish : Cond.instanceMethod yX0_finish ∈ wsX0_step := List.mem_cons_of_mem _ (List.mem_append_left _ (List.mem_append_left _ (List.mem_of_getElem? (i := 17) rfl)))
theorem wsX0_step_v_finish : Cond.selects RX0 yX0_finish yX0_finish ∈ wsX0_step := List.mem_cons_of_mem _ (List.mem_append_left _ (List.mem_append_left _ (List.mem_of_getElem? (i := 18) rfl)))
theorem wsX0_step_c_combine : Cond.code yX0_combine cX0_combine 3 none ∈ wsX0_step := List.mem_cons_of_mem _ (List.mem_append_left _ (List.mem_append_right _ (List.mem_append_left _ (List.mem_of_getElem? (i := 1) rfl))))
theorem wsX0_step_l_combine : Cond.methodLink RX0 85 yX0_combine ∈ wsX0_step := List.mem_cons_of_mem _ (List.mem_append_left _ (List.mem_append_left _ (List.mem_of_getElem? (i := 22) rfl)))
theorem wsX0_step_i_combine : Cond.instanceMethod yX0_combine ∈ wsX0_step := List.mem_cons_of_mem _ (List.mem_append_left _ (List.mem_append_left _ (List.mem_of_getElem? (i := 23) rfl)))
theorem wsX0_step_v_combine : Cond.selects RX0 yX0_combine yX0_combine ∈ wsX0_step := List.mem_cons_of_mem _ (List.mem_append_left _ (List.mem_append_right _ (List.mem_append_left _ (List.mem_of_getElem? (i := 0) rfl))))
theorem wsX0_step_c_push : Cond.code yX0_push cX0_push 5 none ∈ wsX0_step := List.mem_cons_of_mem _ (List.mem_append_left _ (List.mem_append_right _ (List.mem_append_left _ (List.mem_of_getElem? (i := 13) rfl))))
theorem wsX0_step_l_push : Cond.methodLink RX0 89 yX0_push ∈ wsX0_step := List.mem_cons_of_mem _ (List.mem_append_left _ (List.mem_append_right _ (List.mem_append_left _ (List.mem_of_getElem? (i := 10) rfl))))
theorem wsX0_step_i_push : Cond.instanceMethod yX0_push ∈ wsX0_step := List.mem_cons_of_mem _ (List.mem_append_left _ (List.mem_append_right _ (List.mem_append_left _ (List.mem_of_getElem? (i := 11) rfl))))
theorem wsX0_step_v_push : Cond.selects RX0 yX0_push yX0_push ∈ wsX0_step := List.mem_cons_of_mem _ (List.mem_append_left _ (List.mem_append_right _ (List.mem_append_left _ (List.mem_of_getElem? (i := 12) rfl))))
theorem wsX0_step_c_pop : Cond.code yX0_pop cX0_pop 2 none ∈ wsX0_step := List.mem_cons_of_mem _ (List.mem_append_left _ (List.mem_append_right _ (List.mem_append_left _ (List.mem_of_getElem? (i := 17) rfl))))
theorem wsX0_step_l_pop : Cond.methodLink RX0 93 yX0_pop ∈ wsX0_step := List.mem_cons_of_mem _ (List.mem_append_left _ (List.mem_append_right _ (List.mem_append_left _ (List.mem_of_getElem? (i := 14) rfl))))
theorem wsX0_step_i_pop : Cond.instanceMethod yX0_pop ∈ wsX0_step := List.mem_cons_of_mem _ (List.mem_append_left _ (List.mem_append_right _ (List.mem_append_left _ (List.mem_of_getElem? (i := 15) rfl))))
theorem wsX0_step_v_pop : Cond.selects RX0 yX0_pop yX0_pop ∈ wsX0_step := List.mem_cons_of_mem _ (List.mem_append_left _ (List.mem_append_right _ (List.mem_append_left _ (List.mem_of_getElem? (i := 16) rfl))))
theorem wsX0_step_c_swap : Cond.code yX0_swap cX0_swap 3 none ∈ wsX0_step := List.mem_cons_of_mem _ (List.mem_append_left _ (List.mem_append_right _ (List.mem_append_left _ (List.mem_of_getElem? (i := 21) rfl))))
theorem wsX0_step_l_swap : Cond.methodLink RX0 96 yX0_swap ∈ wsX0_step := List.mem_cons_of_mem _ (List.mem_append_left _ (List.mem_append_right _ (List.mem_append_left _ (List.mem_of_getElem? (i := 18) rfl))))
theorem wsX0_step_i_swap : Cond.instanceMethod yX0_swap ∈ wsX0_step := List.mem_cons_of_mem _ (List.mem_append_left _ (List.mem_append_right _ (List.mem_append_left _ (List.mem_of_getElem? (i := 19) rfl))))
theorem wsX0_step_v_swap : Cond.selects RX0 yX0_swap yX0_swap ∈ wsX0_step := List.mem_cons_of_mem _ (List.mem_append_left _ (List.mem_append_right _ (List.mem_append_left _ (List.mem_of_getElem? (i := 20) rfl))))
theorem wsX0_step_c_pushByte : Cond.code yX0_pushByte cX0_pushByte 1 none ∈ wsX0_step := List.mem_cons_of_mem _ (List.mem_append_left _ (List.mem_append_right _ (List.mem_append_right _ (List.mem_append_left _ (List.mem_of_getElem? (i := 1) rfl)))))
theorem wsX0_step_l_pushByte : Cond.methodLink RX0 99 yX0_pushByte ∈ wsX0_step := List.mem_cons_of_mem _ (List.mem_append_left _ (List.mem_append_right _ (List.mem_append_left _ (List.mem_of_getElem? (i := 22) rfl))))
theorem wsX0_step_i_pushByte : Cond.instanceMethod yX0_pushByte ∈ wsX0_step := List.mem_cons_of_mem _ (List.mem_append_left _ (List.mem_append_right _ (List.mem_append_left _ (List.mem_of_getElem? (i := 23) rfl))))
theorem wsX0_step_v_pushByte : Cond.selects RX0 yX0_pushByte yX0_pushByte ∈ wsX0_step := List.mem_cons_of_mem _ (List.mem_append_left _ (List.mem_append_right _ (List.mem_append_right _ (List.mem_append_left _ (List.mem_of_getElem? (i := 0) rfl)))))
theorem wsX0_step_c_loadNarrow : Cond.code yX0_loadNarrow cX0_loadNarrow 1 none ∈ wsX0_step := List.mem_cons_of_mem _ (List.mem_append_left _ (List.mem_append_right _ (List.mem_append_right _ (List.mem_append_left _ (List.mem_of_getElem? (i := 5) rfl)))))
theorem wsX0_step_l_loadNarrow : Cond.methodLink RX0 102 yX0_loadNarrow ∈ wsX0_step := List.mem_cons_of_mem _ (List.mem_append_left _ (List.mem_append_right _ (List.mem_append_right _ (List.mem_append_left _ (List.mem_of_getElem? (i := 2) rfl)))))
theorem wsX0_step_i_loadNarrow : Cond.instanceMethod yX0_loadNarrow ∈ wsX0_step := List.mem_cons_of_mem _ (List.mem_append_left _ (List.mem_append_right _ (List.mem_append_right _ (List.mem_append_left _ (List.mem_of_getElem? (i := 3) rfl)))))
theorem wsX0_step_v_loadNarrow : Cond.selects RX0 yX0_loadNarrow yX0_loadNarrow ∈ wsX0_step := List.mem_cons_of_mem _ (List.mem_append_left _ (List.mem_append_right _ (List.mem_append_right _ (List.mem_append_left _ (List.mem_of_getElem? (i := 4) rfl)))))
theorem wsX0_step_c_storeNarrow : Cond.code yX0_storeNarrow cX0_storeNarrow 1 none ∈ wsX0_step := List.mem_cons_of_mem _ (List.mem_append_left _ (List.mem_append_right _ (List.mem_append_right _ (List.mem_append_left _ (List.mem_of_getElem? (i := 14) rfl)))))
theorem wsX0_step_l_storeNarrow : Cond.methodLink RX0 105 yX0_storeNarrow ∈ wsX0_step := List.mem_cons_of_mem _ (List.mem_append_left _ (List.mem_append_right _ (List.mem_append_right _ (List.mem_append_left _ (List.mem_of_getElem? (i := 11) rfl)))))
theorem wsX0_step_i_storeNarrow : Cond.instanceMethod yX0_storeNarrow ∈ wsX0_step := List.mem_cons_of_mem _ (List.mem_append_left _ (List.mem_append_right _ (List.mem_append_right _ (List.mem_append_left _ (List.mem_of_getElem? (i := 12) rfl)))))
theorem wsX0_step_v_storeNarrow : Cond.selects RX0 yX0_storeNarrow yX0_storeNarrow ∈ wsX0_step := List.mem_cons_of_mem _ (List.mem_append_left _ (List.mem_append_right _ (List.mem_append_right _ (List.mem_append_left _ (List.mem_of_getElem? (i := 13) rfl)))))
theorem wsX0_step_c_wide : Cond.code yX0_wide cX0_wide 3 none ∈ wsX0_step := List.mem_cons_of_mem _ (List.mem_append_left _ (List.mem_append_right _ (List.mem_append_right _ (List.mem_append_left _ (List.mem_of_getElem? (i := 22) rfl)))))
theorem wsX0_step_l_wide : Cond.methodLink RX0 108 yX0_wide ∈ wsX0_step := List.mem_cons_of_mem _ (List.mem_append_left _ (List.mem_append_right _ (List.mem_append_right _ (List.mem_append_left _ (List.mem_of_getElem? (i := 19) rfl)))))
theorem wsX0_step_i_wide : Cond.instanceMethod yX0_wide ∈ wsX0_step := List.mem_cons_of_mem _ (List.mem_append_left _ (List.mem_append_right _ (List.mem_append_right _ (List.mem_append_left _ (List.mem_of_getElem? (i := 20) rfl)))))
theorem wsX0_step_v_wide : Cond.selects RX0 yX0_wide yX0_wide ∈ wsX0_step := List.mem_cons_of_mem _ (List.mem_append_left _ (List.mem_append_right _ (List.mem_append_right _ (List.mem_append_left _ (List.mem_of_getElem? (i := 21) rfl)))))
theorem wsX0_step_c_loadConstant : Cond.code yX0_loadConstant cX0_loadConstant 1 none ∈ wsX0_step := List.mem_cons_of_mem _ (List.mem_append_left _ (List.mem_append_right _ (List.mem_append_right _ (List.mem_append_right _ (List.mem_append_left _ (List.mem_of_getElem? (i := 10) rfl))))))
theorem wsX0_step_l_loadConstant : Cond.methodLink RX0 111 yX0_loadConstant ∈ wsX0_step := List.mem_cons_of_mem _ (List.mem_append_left _ (List.mem_append_right _ (List.mem_append_right _ (List.mem_append_right _ (List.mem_append_left _ (List.mem_of_getElem? (i := 7) rfl))))))
theorem wsX0_step_i_loadConstant : Cond.instanceMethod yX0_loadConstant ∈ wsX0_step := List.mem_cons_of_mem _ (List.mem_append_left _ (List.mem_append_right _ (List.mem_append_right _ (List.mem_append_right _ (List.mem_append_left _ (List.mem_of_getElem? (i := 8) rfl))))))
theorem wsX0_step_v_loadConstant : Cond.selects RX0 yX0_loadConstant yX0_loadConstant ∈ wsX0_step := List.mem_cons_of_mem _ (List.mem_append_left _ (List.mem_append_right _ (List.mem_append_right _ (List.mem_append_right _ (List.mem_append_left _ (List.mem_of_getElem? (i := 9) rfl))))))
theorem wsX0_step_c_increase : Cond.code yX0_increase cX0_increase 2 none ∈ wsX0_step := List.mem_cons_of_mem _ (List.mem_append_left _ (List.mem_append_right _ (List.mem_append_right _ (List.mem_append_right _ (List.mem_append_left _ (List.mem_of_getElem? (i := 15) rfl))))))
theorem wsX0_step_l_increase : Cond.methodLink RX0 114 yX0_increase ∈ wsX0_step := List.mem_cons_of_mem _ (List.mem_append_left _ (List.mem_append_right _ (List.mem_append_right _ (List.mem_append_right _ (List.mem_append_left _ (List.mem_of_getElem? (i := 12) rfl))))))
theorem wsX0_step_i_increase : Cond.instanceMethod yX0_increase ∈ wsX0_step := List.mem_cons_of_mem _ (List.mem_append_left _ (List.mem_append_right _ (List.mem_append_right _ (List.mem_append_right _ (List.mem_append_left _ (List.mem_of_getElem? (i := 13) rfl))))))
theorem wsX0_step_v_increase : Cond.selects RX0 yX0_increase yX0_increase ∈ wsX0_step := List.mem_cons_of_mem _ (List.mem_append_left _ (List.mem_append_right _ (List.mem_append_right _ (List.mem_append_right _ (List.mem_append_left _ (List.mem_of_getElem? (i := 14) rfl))))))
theorem wsX0_step_c_jump : Cond.code yX0_jump cX0_jump 2 none ∈ wsX0_step := List.mem_cons_of_mem _ (List.mem_append_left _ (List.mem_append_right _ (List.mem_append_right _ (List.mem_append_right _ (List.mem_append_left _ (List.mem_of_getElem? (i := 19) rfl))))))
theorem wsX0_step_l_jump : Cond.methodLink RX0 117 yX0_jump ∈ wsX0_step := List.mem_cons_of_mem _ (List.mem_append_left _ (List.mem_append_right _ (List.mem_append_right _ (List.mem_append_right _ (List.mem_append_left _ (List.mem_of_getElem? (i := 16) rfl))))))
theorem wsX0_step_i_jump : Cond.instanceMethod yX0_jump ∈ wsX0_step := List.mem_cons_of_mem _ (List.mem_append_left _ (List.mem_append_right _ (List.mem_append_right _ (List.mem_append_right _ (List.mem_append_left _ (List.mem_of_getElem? (i := 17) rfl))))))
theorem wsX0_step_v_jump : Cond.selects RX0 yX0_jump yX0_jump ∈ wsX0_step := List.mem_cons_of_mem _ (List.mem_append_left _ (List.mem_append_right _ (List.mem_append_right _ (List.mem_append_right _ (List.mem_append_left _ (List.mem_of_getElem? (i := 18) rfl))))))
theorem wsX0_step_c_jumpOnTop : Cond.code yX0_jumpOnTop cX0_jumpOnTop 3 none ∈ wsX0_step := List.mem_cons_of_mem _ (List.mem_append_left _ (List.mem_append_right _ (List.mem_append_right _ (List.mem_append_right _ (List.mem_append_right _ (List.mem_of_getElem? (i := 3) rfl))))))
theorem wsX0_step_l_jumpOnTop : Cond.methodLink RX0 120 yX0_jumpOnTop ∈ wsX0_step := List.mem_cons_of_mem _ (List.mem_append_left _ (List.mem_append_right _ (List.mem_append_right _ (List.mem_append_right _ (List.mem_append_right _ (List.mem_of_getElem? (i := 0) rfl))))))
theorem wsX0_step_i_jumpOnTop : Cond.instanceMethod yX0_jumpOnTop ∈ wsX0_step := List.mem_cons_of_mem _ (List.mem_append_left _ (List.mem_append_right _ (List.mem_append_right _ (List.mem_append_right _ (List.mem_append_right _ (List.mem_of_getElem? (i := 1) rfl))))))
theorem wsX0_step_v_jumpOnTop : Cond.selects RX0 yX0_jumpOnTop yX0_jumpOnTop ∈ wsX0_step := List.mem_cons_of_mem _ (List.mem_append_left _ (List.mem_append_right _ (List.mem_append_right _ (List.mem_append_right _ (List.mem_append_right _ (List.mem_of_getElem? (i := 2) rfl))))))
theorem wsX0_step_c_jumpOnLike : Cond.code yX0_jumpOnLike cX0_jumpOnLike 3 none ∈ wsX0_step := List.mem_cons_of_mem _ (List.mem_append_left _ (List.mem_append_right _ (List.mem_append_right _ (List.mem_append_right _ (List.mem_append_right _ (List.mem_of_getElem? (i := 11) rfl))))))
theorem wsX0_step_l_jumpOnLike : Cond.methodLink RX0 124 yX0_jumpOnLike ∈ wsX0_step := List.mem_cons_of_mem _ (List.mem_append_left _ (List.mem_append_right _ (List.mem_append_right _ (List.mem_append_right _ (List.mem_append_right _ (List.mem_of_getElem? (i := 8) rfl))))))
theorem wsX0_step_i_jumpOnLike : Cond.instanceMethod yX0_jumpOnLike ∈ wsX0_step := List.mem_cons_of_mem _ (List.mem_append_left _ (List.mem_append_right _ (List.mem_append_right _ (List.mem_append_right _ (List.mem_append_right _ (List.mem_of_getElem? (i := 9) rfl))))))
theorem wsX0_step_v_jumpOnLike : Cond.selects RX0 yX0_jumpOnLike yX0_jumpOnLike ∈ wsX0_step := List.mem_cons_of_mem _ (List.mem_append_left _ (List.mem_append_right _ (List.mem_append_right _ (List.mem_append_right _ (List.mem_append_right _ (List.mem_of_getElem? (i := 10) rfl))))))
theorem wsX0_step_c_enter : Cond.code yX0_enter cX0_enter 5 none ∈ wsX0_step := List.mem_cons_of_mem _ (List.mem_append_left _ (List.mem_append_right _ (List.mem_append_right _ (List.mem_append_right _ (List.mem_append_right _ (List.mem_of_getElem? (i := 15) rfl))))))
theorem wsX0_step_l_enter : Cond.methodLink RX0 127 yX0_enter ∈ wsX0_step := List.mem_cons_of_mem _ (List.mem_append_left _ (List.mem_append_right _ (List.mem_append_right _ (List.mem_append_right _ (List.mem_append_right _ (List.mem_of_getElem? (i := 12) rfl))))))
theorem wsX0_step_i_enter : Cond.instanceMethod yX0_enter ∈ wsX0_step := List.mem_cons_of_mem _ (List.mem_append_left _ (List.mem_append_right _ (List.mem_append_right _ (List.mem_append_right _ (List.mem_append_right _ (List.mem_of_getElem? (i := 13) rfl))))))
theorem wsX0_step_v_enter : Cond.selects RX0 yX0_enter yX0_enter ∈ wsX0_step := List.mem_cons_of_mem _ (List.mem_append_left _ (List.mem_append_right _ (List.mem_append_right _ (List.mem_append_right _ (List.mem_append_right _ (List.mem_of_getElem? (i := 14) rfl))))))
theorem wsX0_step_c_leave : Cond.code yX0_leave cX0_leave 4 none ∈ wsX0_step := List.mem_cons_of_mem _ (List.mem_append_left _ (List.mem_append_right _ (List.mem_append_right _ (List.mem_append_right _ (List.mem_append_right _ (List.mem_of_getElem? (i := 19) rfl))))))
theorem wsX0_step_l_leave : Cond.methodLink RX0 130 yX0_leave ∈ wsX0_step := List.mem_cons_of_mem _ (List.mem_append_left _ (List.mem_append_right _ (List.mem_append_right _ (List.mem_append_right _ (List.mem_append_right _ (List.mem_of_getElem? (i := 16) rfl))))))
theorem wsX0_step_i_leave : Cond.instanceMethod yX0_leave ∈ wsX0_step := List.mem_cons_of_mem _ (List.mem_append_left _ (List.mem_append_right _ (List.mem_append_right _ (List.mem_append_right _ (List.mem_append_right _ (List.mem_of_getElem? (i := 17) rfl))))))
theorem wsX0_step_v_leave : Cond.selects RX0 yX0_leave yX0_leave ∈ wsX0_step := List.mem_cons_of_mem _ (List.mem_append_left _ (List.mem_append_right _ (List.mem_append_right _ (List.mem_append_right _ (List.mem_append_right _ (List.mem_of_getElem? (i := 18) rfl))))))
theorem wsX0_step_c_halt : Cond.code yX0_halt cX0_halt 1 none ∈ wsX0_step := List.mem_cons_of_mem _ (List.mem_append_left _ (List.mem_append_right _ (List.mem_append_right _ (List.mem_append_right _ (List.mem_append_right _ (List.mem_of_getElem? (i := 23) rfl))))))
theorem wsX0_step_l_halt : Cond.methodLink RX0 133 yX0_halt ∈ wsX0_step := List.mem_cons_of_mem _ (List.mem_append_left _ (List.mem_append_right _ (List.mem_append_right _ (List.mem_append_right _ (List.mem_append_right _ (List.mem_of_getElem? (i := 20) rfl))))))
theorem wsX0_step_i_halt : Cond.instanceMethod yX0_halt ∈ wsX0_step := List.mem_cons_of_mem _ (List.mem_append_left _ (List.mem_append_right _ (List.mem_append_right _ (List.mem_append_right _ (List.mem_append_right _ (List.mem_of_getElem? (i := 21) rfl))))))
theorem wsX0_step_v_halt : Cond.selects RX0 yX0_halt yX0_halt ∈ wsX0_step := List.mem_cons_of_mem _ (List.mem_append_left _ (List.mem_append_right _ (List.mem_append_right _ (List.mem_append_right _ (List.mem_append_right _ (List.mem_of_getElem? (i := 22) rfl))))))
theorem wsX0_step_c_trap : Cond.code yX0_trap cX0_trap 1 none ∈ wsX0_step := List.mem_cons_of_mem _ (List.mem_append_left _ (List.mem_append_right _ (List.mem_append_right _ (List.mem_append_right _ (List.mem_append_left _ (List.mem_of_getElem? (i := 2) rfl))))))
theorem wsX0_step_l_trap : Cond.methodLink RX0 136 yX0_trap ∈ wsX0_step := List.mem_cons_of_mem _ (List.mem_append_left _ (List.mem_append_right _ (List.mem_append_right _ (List.mem_append_left _ (List.mem_of_getElem? (i := 23) rfl)))))
theorem wsX0_step_i_trap : Cond.instanceMethod yX0_trap ∈ wsX0_step := List.mem_cons_of_mem _ (List.mem_append_left _ (List.mem_append_right _ (List.mem_append_right _ (List.mem_append_right _ (List.mem_append_left _ (List.mem_of_getElem? (i := 0) rfl))))))
theorem wsX0_step_v_trap : Cond.selects RX0 yX0_trap yX0_trap ∈ wsX0_step := List.mem_cons_of_mem _ (List.mem_append_left _ (List.mem_append_right _ (List.mem_append_right _ (List.mem_append_right _ (List.mem_append_left _ (List.mem_of_getElem? (i := 1) rfl))))))
theorem wsX0_step_c_combined : Cond.code yX0_combined cX0_combined 3 (some .int) ∈ wsX0_step := List.mem_cons_of_mem _ (List.mem_append_left _ (List.mem_append_right _ (List.mem_append_left _ (List.mem_of_getElem? (i := 9) rfl))))
theorem wsX0_step_l_combined : Cond.methodLink RX0 139 yX0_combined ∈ wsX0_step := List.mem_cons_of_mem _ (List.mem_append_left _ (List.mem_append_right _ (List.mem_append_left _ (List.mem_of_getElem? (i := 7) rfl))))
theorem wsX0_step_s_combined : Cond.static yX0_combined ∈ wsX0_step := List.mem_cons_of_mem _ (List.mem_append_left _ (List.mem_append_right _ (List.mem_append_left _ (List.mem_of_getElem? (i := 8) rfl))))
theorem wsX0_step_c_load : Cond.code yX0_load cX0_load 4 none ∈ wsX0_step := List.mem_cons_of_mem _ (List.mem_append_left _ (List.mem_append_right _ (List.mem_append_right _ (List.mem_append_left _ (List.mem_of_getElem? (i := 10) rfl)))))
theorem wsX0_step_l_load : Cond.methodLink RX0 143 yX0_load ∈ wsX0_step := List.mem_cons_of_mem _ (List.mem_append_left _ (List.mem_append_right _ (List.mem_append_right _ (List.mem_append_left _ (List.mem_of_getElem? (i := 7) rfl)))))
theorem wsX0_step_i_load : Cond.instanceMethod yX0_load ∈ wsX0_step := List.mem_cons_of_mem _ (List.mem_append_left _ (List.mem_append_right _ (List.mem_append_right _ (List.mem_append_left _ (List.mem_of_getElem? (i := 8) rfl)))))
theorem wsX0_step_v_load : Cond.selects RX0 yX0_load yX0_load ∈ wsX0_step := List.mem_cons_of_mem _ (List.mem_append_left _ (List.mem_append_right _ (List.mem_append_right _ (List.mem_append_left _ (List.mem_of_getElem? (i := 9) rfl)))))
theorem wsX0_step_c_store : Cond.code yX0_store cX0_store 5 none ∈ wsX0_step := List.mem_cons_of_mem _ (List.mem_append_left _ (List.mem_append_right _ (List.mem_append_right _ (List.mem_append_left _ (List.mem_of_getElem? (i := 18) rfl)))))
theorem wsX0_step_l_store : Cond.methodLink RX0 146 yX0_store ∈ wsX0_step := List.mem_cons_of_mem _ (List.mem_append_left _ (List.mem_append_right _ (List.mem_append_right _ (List.mem_append_left _ (List.mem_of_getElem? (i := 15) rfl)))))
theorem wsX0_step_i_store : Cond.instanceMethod yX0_store ∈ wsX0_step := List.mem_cons_of_mem _ (List.mem_append_left _ (List.mem_append_right _ (List.mem_append_right _ (List.mem_append_left _ (List.mem_of_getElem? (i := 16) rfl)))))
theorem wsX0_step_v_store : Cond.selects RX0 yX0_store yX0_store ∈ wsX0_step := List.mem_cons_of_mem _ (List.mem_append_left _ (List.mem_append_right _ (List.mem_append_right _ (List.mem_append_left _ (List.mem_of_getElem? (i := 17) rfl)))))
theorem wsX0_step_c_unsignedPair : Cond.code yX0_unsignedPair cX0_unsignedPair 2 (some .int) ∈ wsX0_step := List.mem_cons_of_mem _ (List.mem_append_left _ (List.mem_append_right _ (List.mem_append_right _ (List.mem_append_right _ (List.mem_append_left _ (List.mem_of_getElem? (i := 6) rfl))))))
theorem wsX0_step_l_unsignedPair : Cond.methodLink RX0 149 yX0_unsignedPair ∈ wsX0_step := List.mem_cons_of_mem _ (List.mem_append_left _ (List.mem_append_right _ (List.mem_append_right _ (List.mem_append_right _ (List.mem_append_left _ (List.mem_of_getElem? (i := 3) rfl))))))
theorem wsX0_step_i_unsignedPair : Cond.instanceMethod yX0_unsignedPair ∈ wsX0_step := List.mem_cons_of_mem _ (List.mem_append_left _ (List.mem_append_right _ (List.mem_append_right _ (List.mem_append_right _ (List.mem_append_left _ (List.mem_of_getElem? (i := 4) rfl))))))
theorem wsX0_step_v_unsignedPair : Cond.selects RX0 yX0_unsignedPair yX0_unsignedPair ∈ wsX0_step := List.mem_cons_of_mem _ (List.mem_append_left _ (List.mem_append_right _ (List.mem_append_right _ (List.mem_append_right _ (List.mem_append_left _ (List.mem_of_getElem? (i := 5) rfl))))))
theorem wsX0_step_c_signedPair : Cond.code yX0_signedPair cX0_signedPair 2 (some .int) ∈ wsX0_step := List.mem_cons_of_mem _ (List.mem_append_left _ (List.mem_append_right _ (List.mem_append_right _ (List.mem_append_right _ (List.mem_append_left _ (List.mem_of_getElem? (i := 23) rfl))))))
theorem wsX0_step_l_signedPair : Cond.methodLink RX0 152 yX0_signedPair ∈ wsX0_step := List.mem_cons_of_mem _ (List.mem_append_left _ (List.mem_append_right _ (List.mem_append_right _ (List.mem_append_right _ (List.mem_append_left _ (List.mem_of_getElem? (i := 20) rfl))))))
theorem wsX0_step_i_signedPair : Cond.instanceMethod yX0_signedPair ∈ wsX0_step := List.mem_cons_of_mem _ (List.mem_append_left _ (List.mem_append_right _ (List.mem_append_right _ (List.mem_append_right _ (List.mem_append_left _ (List.mem_of_getElem? (i := 21) rfl))))))
theorem wsX0_step_v_signedPair : Cond.selects RX0 yX0_signedPair yX0_signedPair ∈ wsX0_step := List.mem_cons_of_mem _ (List.mem_append_left _ (List.mem_append_right _ (List.mem_append_right _ (List.mem_append_right _ (List.mem_append_left _ (List.mem_of_getElem? (i := 22) rfl))))))
theorem wsX0_step_c_branch : Cond.code yX0_branch cX0_branch 4 none ∈ wsX0_step := List.mem_cons_of_mem _ (List.mem_append_left _ (List.mem_append_right _ (List.mem_append_right _ (List.mem_append_right _ (List.mem_append_right _ (List.mem_of_getElem? (i := 7) rfl))))))
theorem wsX0_step_l_branch : Cond.methodLink RX0 155 yX0_branch ∈ wsX0_step := List.mem_cons_of_mem _ (List.mem_append_left _ (List.mem_append_right _ (List.mem_append_right _ (List.mem_append_right _ (List.mem_append_right _ (List.mem_of_getElem? (i := 4) rfl))))))
theorem wsX0_step_i_branch : Cond.instanceMethod yX0_branch ∈ wsX0_step := List.mem_cons_of_mem _ (List.mem_append_left _ (List.mem_append_right _ (List.mem_append_right _ (List.mem_append_right _ (List.mem_append_right _ (List.mem_of_getElem? (i := 5) rfl))))))
theorem wsX0_step_v_branch : Cond.selects RX0 yX0_branch yX0_branch ∈ wsX0_step := List.mem_cons_of_mem _ (List.mem_append_left _ (List.mem_append_right _ (List.mem_append_right _ (List.mem_append_right _ (List.mem_append_right _ (List.mem_of_getElem? (i := 6) rfl))))))
abbrev Ztk : Type := va_G × Nat × Nat × Nat × Nat × Nat × ClassId × ClassId × ClassId × ClassId
def zta_this (k : Ztk) : Nat := k.2.1
def zta_words (k : Ztk) : Nat := k.2.2.1
def zta_bytes (k : Ztk) : Nat := k.2.2.2.1
def zta_places (k : Ztk) : Nat := k.2.2.2.2.1
def zta_before (k : Ztk) : Nat := k.2.2.2.2.2.1
def ztc_words (k : Ztk) : ClassId := k.2.2.2.2.2.2.1
def ztc_bytes (k : Ztk) : ClassId := k.2.2.2.2.2.2.2.1
def ztc_places (k : Ztk) : ClassId := k.2.2.2.2.2.2.2.2.1
def ztc_before (k : Ztk) : ClassId := k.2.2.2.2.2.2.2.2.2
abbrev Zts : Type := Int32 × (Nat → Int32) × (Nat → Int32) × Int32 × Int32 × Int32 × Int32 × Int32 × Int32 × Int32 × Int32 × Int32 × Int32 × Int32 × Int32 × (Nat → Int32) × (Nat → Int32)
def ztg_thrown (u : Zts) : Int32 := u.1
def zts_thrown (u : Zts) (v : Int32) : Zts := (v, u.2)
def ztg_words (u : Zts) : (Nat → Int32) := u.2.1
def zts_words (u : Zts) (v : (Nat → Int32)) : Zts := (u.1, v, u.2.2)
def ztg_bytes (u : Zts) : (Nat → Int32) := u.2.2.1
def zts_bytes (u : Zts) (v : (Nat → Int32)) : Zts := (u.1, u.2.1, v, u.2.2.2)
def ztg_pc (u : Zts) : Int32 := u.2.2.2.1
def zts_pc (u : Zts) (v : Int32) : Zts := (u.1, u.2.1, u.2.2.1, v, u.2.2.2.2)
def ztg_sp (u : Zts) : Int32 := u.2.2.2.2.1
def zts_sp (u : Zts) (v : Int32) : Zts := (u.1, u.2.1, u.2.2.1, u.2.2.2.1, v, u.2.2.2.2.2)
def ztg_lv (u : Zts) : Int32 := u.2.2.2.2.2.1
def zts_lv (u : Zts) (v : Int32) : Zts := (u.1, u.2.1, u.2.2.1, u.2.2.2.1, u.2.2.2.2.1, v, u.2.2.2.2.2.2)
def ztg_cpp (u : Zts) : Int32 := u.2.2.2.2.2.2.1
def zts_cpp (u : Zts) (v : Int32) : Zts := (u.1, u.2.1, u.2.2.1, u.2.2.2.1, u.2.2.2.2.1, u.2.2.2.2.2.1, v, u.2.2.2.2.2.2.2)
def ztg_top (u : Zts) : Int32 := u.2.2.2.2.2.2.2.1
def zts_top (u : Zts) (v : Int32) : Zts := (u.1, u.2.1, u.2.2.1, u.2.2.2.1, u.2.2.2.2.1, u.2.2.2.2.2.1, u.2.2.2.2.2.2.1, v, u.2.2.2.2.2.2.2.2)
def ztg_state (u : Zts) : Int32 := u.2.2.2.2.2.2.2.2.1
def zts_state (u : Zts) (v : Int32) : Zts := (u.1, u.2.1, u.2.2.1, u.2.2.2.1, u.2.2.2.2.1, u.2.2.2.2.2.1, u.2.2.2.2.2.2.1, u.2.2.2.2.2.2.2.1, v, u.2.2.2.2.2.2.2.2.2)
def ztg_cycles (u : Zts) : Int32 := u.2.2.2.2.2.2.2.2.2.1
def zts_cycles (u : Zts) (v : Int32) : Zts := (u.1, u.2.1, u.2.2.1, u.2.2.2.1, u.2.2.2.2.1, u.2.2.2.2.2.1, u.2.2.2.2.2.2.1, u.2.2.2.2.2.2.2.1, u.2.2.2.2.2.2.2.2.1, v, u.2.2.2.2.2.2.2.2.2.2)
def ztg_done (u : Zts) : Int32 := u.2.2.2.2.2.2.2.2.2.2.1
def zts_done (u : Zts) (v : Int32) : Zts := (u.1, u.2.1, u.2.2.1, u.2.2.2.1, u.2.2.2.2.1, u.2.2.2.2.2.1, u.2.2.2.2.2.2.1, u.2.2.2.2.2.2.2.1, u.2.2.2.2.2.2.2.2.1, u.2.2.2.2.2.2.2.2.2.1, v, u.2.2.2.2.2.2.2.2.2.2.2)
def ztg_next (u : Zts) : Int32 := u.2.2.2.2.2.2.2.2.2.2.2.1
def zts_next (u : Zts) (v : Int32) : Zts := (u.1, u.2.1, u.2.2.1, u.2.2.2.1, u.2.2.2.2.1, u.2.2.2.2.2.1, u.2.2.2.2.2.2.1, u.2.2.2.2.2.2.2.1, u.2.2.2.2.2.2.2.2.1, u.2.2.2.2.2.2.2.2.2.1, u.2.2.2.2.2.2.2.2.2.2.1, v, u.2.2.2.2.2.2.2.2.2.2.2.2)
def ztg_amiss (u : Zts) : Int32 := u.2.2.2.2.2.2.2.2.2.2.2.2.1
def zts_amiss (u : Zts) (v : Int32) : Zts := (u.1, u.2.1, u.2.2.1, u.2.2.2.1, u.2.2.2.2.1, u.2.2.2.2.2.1, u.2.2.2.2.2.2.1, u.2.2.2.2.2.2.2.1, u.2.2.2.2.2.2.2.2.1, u.2.2.2.2.2.2.2.2.2.1, u.2.2.2.2.2.2.2.2.2.2.1, u.2.2.2.2.2.2.2.2.2.2.2.1, v, u.2.2.2.2.2.2.2.2.2.2.2.2.2)
def ztg_unknown (u : Zts) : Int32 := u.2.2.2.2.2.2.2.2.2.2.2.2.2.1
def zts_unknown (u : Zts) (v : Int32) : Zts := (u.1, u.2.1, u.2.2.1, u.2.2.2.1, u.2.2.2.2.1, u.2.2.2.2.2.1, u.2.2.2.2.2.2.1, u.2.2.2.2.2.2.2.1, u.2.2.2.2.2.2.2.2.1, u.2.2.2.2.2.2.2.2.2.1, u.2.2.2.2.2.2.2.2.2.2.1, u.2.2.2.2.2.2.2.2.2.2.2.1, u.2.2.2.2.2.2.2.2.2.2.2.2.1, v, u.2.2.2.2.2.2.2.2.2.2.2.2.2.2)
def ztg_writes (u : Zts) : Int32 := u.2.2.2.2.2.2.2.2.2.2.2.2.2.2.1
def zts_writes (u : Zts) (v : Int32) : Zts := (u.1, u.2.1, u.2.2.1, u.2.2.2.1, u.2.2.2.2.1, u.2.2.2.2.2.1, u.2.2.2.2.2.2.1, u.2.2.2.2.2.2.2.1, u.2.2.2.2.2.2.2.2.1, u.2.2.2.2.2.2.2.2.2.1, u.2.2.2.2.2.2.2.2.2.2.1, u.2.2.2.2.2.2.2.2.2.2.2.1, u.2.2.2.2.2.2.2.2.2.2.2.2.1, u.2.2.2.2.2.2.2.2.2.2.2.2.2.1, v, u.2.2.2.2.2.2.2.2.2.2.2.2.2.2.2)
def ztg_places (u : Zts) : (Nat → Int32) := u.2.2.2.2.2.2.2.2.2.2.2.2.2.2.2.1
def zts_places (u : Zts) (v : (Nat → Int32)) : Zts := (u.1, u.2.1, u.2.2.1, u.2.2.2.1, u.2.2.2.2.1, u.2.2.2.2.2.1, u.2.2.2.2.2.2.1, u.2.2.2.2.2.2.2.1, u.2.2.2.2.2.2.2.2.1, u.2.2.2.2.2.2.2.2.2.1, u.2.2.2.2.2.2.2.2.2.2.1, u.2.2.2.2.2.2.2.2.2.2.2.1, u.2.2.2.2.2.2.2.2.2.2.2.2.1, u.2.2.2.2.2.2.2.2.2.2.2.2.2.1, u.2.2.2.2.2.2.2.2.2.2.2.2.2.2.1, v, u.2.2.2.2.2.2.2.2.2.2.2.2.2.2.2.2)
def ztg_before (u : Zts) : (Nat → Int32) := u.2.2.2.2.2.2.2.2.2.2.2.2.2.2.2.2
def zts_before (u : Zts) (v : (Nat → Int32)) : Zts := (u.1, u.2.1, u.2.2.1, u.2.2.2.1, u.2.2.2.2.1, u.2.2.2.2.2.1, u.2.2.2.2.2.2.1, u.2.2.2.2.2.2.2.1, u.2.2.2.2.2.2.2.2.1, u.2.2.2.2.2.2.2.2.2.1, u.2.2.2.2.2.2.2.2.2.2.1, u.2.2.2.2.2.2.2.2.2.2.2.1, u.2.2.2.2.2.2.2.2.2.2.2.2.1, u.2.2.2.2.2.2.2.2.2.2.2.2.2.1, u.2.2.2.2.2.2.2.2.2.2.2.2.2.2.1, u.2.2.2.2.2.2.2.2.2.2.2.2.2.2.2.1, v)
def ZtW (k : Ztk) (u : Zts) : va_W := [(zta_this k, .inr (1, [.int (ztg_thrown u), .ref (zta_words k), .ref (zta_bytes k), .int (ztg_pc u), .int (ztg_sp u), .int (ztg_lv u), .int (ztg_cpp u), .int (ztg_top u), .int (ztg_state u), .int (ztg_cycles u), .int (ztg_done u), .int (ztg_next u), .int (ztg_amiss u), .int (ztg_unknown u), .int (ztg_writes u), .ref (zta_places k), .ref (zta_before k)])), (zta_words k, .inl (ztc_words k, 256, .inl (ztg_words u))), (zta_bytes k, .inl (ztc_bytes k, 512, .inl (ztg_bytes u))), (zta_places k, .inl (ztc_places k, 8, .inl (ztg_places u))), (zta_before k, .inl (ztc_before k, 8, .inl (ztg_before u)))]
def ZtT (k : Ztk) : List (ClassId × FieldType) := [(ztc_words k, .int), (ztc_bytes k, .int), (ztc_places k, .int), (ztc_before k, .int)]
def ZtL (k : Ztk) : List Nat := [zta_this k, zta_words k, zta_bytes k, zta_places k, zta_before k]
theorem zwT_init : Cond.initialized RX1 ∈ zwT := List.mem_cons_of_mem _ (List.mem_cons_of_mem _ (List.mem_append_left _ (List.mem_append_left _ (List.mem_of_getElem? (i := 17) rfl))))
theorem zwT_good : ∀ w ∈ zwT, w ∈ zwT ∧ ((w.onTables && w.keeps) = true ∨ ∃ ty, w = .arrayClass ty) := fun w h => ⟨h, good_of_word (List.all_eq_true.mp (show (zwT).all goodWord = true by decide +kernel) w h)⟩
theorem zwT_fld : ∀ w ∈ u_ws RX1 TX1 17, w ∈ zwT := fun _ h => List.mem_cons_of_mem _ (List.mem_cons_of_mem _ (List.mem_append_right _ h))
theorem zwT_f_thrown : Cond.fieldLink RX1 22 "StackComputerModel" "thrown" "I" ∈ zwT := List.mem_cons_self
theorem zwT_f_words : Cond.fieldLink RX1 7 "StackComputerModel" "words" "[I" ∈ zwT := List.mem_cons_of_mem _ (List.mem_cons_of_mem _ (List.mem_append_left _ (List.mem_append_left _ (List.mem_of_getElem? (i := 11) rfl))))
theorem zwT_f_bytes : Cond.fieldLink RX1 13 "StackComputerModel" "bytes" "[I" ∈ zwT := List.mem_cons_of_mem _ (List.mem_cons_of_mem _ (List.mem_append_left _ (List.mem_append_left _ (List.mem_of_getElem? (i := 19) rfl))))
theorem zwT_f_pc : Cond.fieldLink RX1 30 "StackComputerModel" "pc" "I" ∈ zwT := List.mem_cons_of_mem _ (List.mem_cons_of_mem _ (List.mem_append_left _ (List.mem_append_left _ (List.mem_of_getElem? (i := 6) rfl))))
theorem zwT_f_sp : Cond.fieldLink RX1 33 "StackComputerModel" "sp" "I" ∈ zwT := List.mem_cons_of_mem _ (List.mem_cons_of_mem _ (List.mem_append_left _ (List.mem_append_left _ (List.mem_of_getElem? (i := 0) rfl))))
theorem zwT_f_lv : Cond.fieldLink RX1 36 "StackComputerModel" "lv" "I" ∈ zwT := List.mem_cons_of_mem _ (List.mem_cons_of_mem _ (List.mem_append_left _ (List.mem_append_left _ (List.mem_of_getElem? (i := 1) rfl))))
theorem zwT_f_cpp : Cond.fieldLink RX1 39 "StackComputerModel" "cpp" "I" ∈ zwT := List.mem_cons_of_mem _ (List.mem_cons_of_mem _ (List.mem_append_left _ (List.mem_append_right _ (List.mem_append_left _ (List.mem_of_getElem? (i := 0) rfl)))))
theorem zwT_f_top : Cond.fieldLink RX1 42 "StackComputerModel" "top" "I" ∈ zwT := List.mem_cons_of_mem _ (List.mem_cons_of_mem _ (List.mem_append_left _ (List.mem_append_left _ (List.mem_of_getElem? (i := 2) rfl))))
theorem zwT_f_state : Cond.fieldLink RX1 45 "StackComputerModel" "state" "I" ∈ zwT := List.mem_cons_of_mem _ (List.mem_cons_of_mem _ (List.mem_append_left _ (List.mem_append_left _ (List.mem_of_getElem? (i := 10) rfl))))
theorem zwT_f_cycles : Cond.fieldLink RX1 48 "StackComputerModel" "cycles" "I" ∈ zwT := List.mem_cons_of_mem _ (List.mem_cons_of_mem _ (List.mem_append_left _ (List.mem_append_left _ (List.mem_of_getElem? (i := 8) rfl))))
theorem zwT_f_done : Cond.fieldLink RX1 51 "StackComputerModel" "done" "I" ∈ zwT := List.mem_cons_of_mem _ (List.mem_cons_of_mem _ (List.mem_append_left _ (List.mem_append_left _ (List.mem_of_getElem? (i := 9) rfl))))
theorem zwT_f_next : Cond.fieldLink RX1 72 "StackComputerModel" "next" "I" ∈ zwT := List.mem_cons_of_mem _ (List.mem_cons_of_mem _ (List.mem_append_left _ (List.mem_append_left _ (List.mem_of_getElem? (i := 7) rfl))))
theorem zwT_f_amiss : Cond.fieldLink RX1 54 "StackComputerModel" "amiss" "Z" ∈ zwT := List.mem_cons_of_mem _ (List.mem_cons_of_mem _ (List.mem_append_left _ (List.mem_append_left _ (List.mem_of_getElem? (i := 3) rfl))))
theorem zwT_f_unknown : Cond.fieldLink RX1 75 "StackComputerModel" "unknown" "Z" ∈ zwT := List.mem_cons_of_mem _ (List.mem_cons_of_mem _ (List.mem_append_left _ (List.mem_append_left _ (List.mem_of_getElem? (i := 4) rfl))))
theorem zwT_f_writes : Cond.fieldLink RX1 58 "StackComputerModel" "writes" "I" ∈ zwT := List.mem_cons_of_mem _ (List.mem_cons_of_mem _ (List.mem_append_left _ (List.mem_append_left _ (List.mem_of_getElem? (i := 5) rfl))))
theorem zwT_f_places : Cond.fieldLink RX1 16 "StackComputerModel" "places" "[I" ∈ zwT := List.mem_cons_of_mem _ (List.mem_cons_of_mem _ (List.mem_append_left _ (List.mem_append_left _ (List.mem_of_getElem? (i := 12) rfl))))
theorem zwT_f_before : Cond.fieldLink RX1 19 "StackComputerModel" "before" "[I" ∈ zwT := List.mem_cons_of_mem _ (List.mem_cons_of_mem _ (List.mem_append_left _ (List.mem_append_left _ (List.mem_of_getElem? (i := 13) rfl))))

def ZtP (k : Ztk) (u : Zts) (H : Heap) : Prop := va_P k.1 vwCl (ZtW k u) H
def ZtK (k : Ztk) (U : State) : Prop := va_K k.1 vwCl (ZtT k) U
def ZtA (k : Ztk) : Nat → Prop := fun q => q ∈ ZtL k
def ZtD (k : Ztk) : Prop := (ZtL k).Nodup
theorem zt_D {k : Ztk} (h : ZtD k) (u : Zts) : va_D (ZtA k) (ZtW k u) := z_Dof (show ((ZtW k u).map Prod.fst).Nodup from h) (fun _ h => h)
def ZtC (p : Program) (s : State) (m : MethodId) (args : Array Value) (c : Code) (cc : ByteArray) (nL : Nat) (k : Ztk) : Prop := CallFix p m c cc nL s args zwT RX1 ∧ ZtK k s ∧ ZtD k
def ZtB (k : Ztk) (av : List Value) (u : Zts) : Array Value → State → Prop := fun a U => a = av.toArray ∧ ZtP k u U.heap ∧ ZtK k U
def ZtQ (k : Ztk) (v : Option Value) (u' : Zts) : Array Value → State → Outcome → State → Prop := fun _ st o t => o = .returned v ∧ ZtP k u' t.heap ∧ va_F (ZtA k) st t
theorem zt_blind {k : Ztk} {av : List Value} {u : Zts} : FrameBlind (ZtB k av u) := fun a U g mk q => ⟨q.1, q.2.1, va_K.moved (u := U) (U := U.calling g mk a) (Vm.Alike.refl U.vm) q.2.2⟩
section ZtRows
variable {p : Program} {l : Launch} {e : Env} {R : Room} {s : State} {m : MethodId} {args : Array Value} {below : List Frame} {meth : Method} {c : Code} {H : Heap} {locs : List Loc} {Q : State → Prop} {cc : ByteArray} {pc nL : Nat} {ls : Array Slot} {rest : List Value} {k : Ztk} {u : Zts} {H0 : Heap}
theorem ztE_in {y : MethodName} {maxL d : Nat} {ret : Option FieldType} {av : List Value} {v : Option Value} {u' : Zts} (hy : plainName y.cls = true) (hyc : y.cls = RX1) (hm : (lg_sl av).length ≤ maxL) (Dk : ZtD k)
    (body : ∀ (p : Program) (e : Env) (s : State) (m : MethodId) (below : List Frame) (meth : Method) (c : Code) (ls : Array Slot), ZtC p s m av.toArray c cc maxL k → meth.sig.returnType = ret → meth.locks = false → ZtP k u s.heap → lv_has ls maxL (lv_args 0 av) →
      W p l e (zrm d) s m av.toArray below meth c s.heap [] 0 0 (MQ below (ZtQ k v u') av.toArray s 0 0 (ZtA k)) (F0 m 0 ls [])) :
    Met l y (.code y cc maxL ret :: zwT) (zrm d) (ZtB k av u) (ZtQ k v u') 0 0 (ZtA k) := by
  refine Met.ofW (cc := cc) (maxL := maxL) (ret := ret) hy rfl ?_
  intro p e s m args below meth c s₁ B hml hv
  obtain ⟨rfl, hP, hK⟩ := hv
  have hts := atoms_spec (ws := Cond.code y cc maxL ret :: zwT) B.pre
  have hown : s.vm.findClass RX1 = some m.cls := by rw [← hyc]; exact findClass_of_methodNamed B.named
  rw [lg_entry_eq]
  exact body p e s m below meth c _ ⟨⟨B.exec, B.bytes, hml, hown, fun w h => hts w (List.mem_cons_of_mem _ h)⟩, hK, Dk⟩ B.returns B.notSynchronized hP (lv_entry av hm)
theorem ztE_inR {y : MethodName} {maxL d : Nat} {ret : Option FieldType} {av : List Value} {r : Int32} (hy : plainName y.cls = true) (hyc : y.cls = RX1) (hm : (lg_sl av).length ≤ maxL) (Dk : ZtD k)
    (body : ∀ (p : Program) (e : Env) (s : State) (m : MethodId) (below : List Frame) (meth : Method) (c : Code) (ls : Array Slot), ZtC p s m av.toArray c cc maxL k → meth.sig.returnType = ret → meth.locks = false → ZtP k u s.heap → lv_has ls maxL (lv_args 0 av) →
      W p l e (zrm d) s m av.toArray below meth c s.heap [] 0 0 (MQ below (QcRead r) av.toArray s 0 0 (fun _ => False)) (F0 m 0 ls [])) :
    Met l y (.code y cc maxL ret :: zwT) (zrm d) (ZtB k av u) (QcRead r) 0 0 (fun _ => False) := by
  refine Met.ofW (cc := cc) (maxL := maxL) (ret := ret) hy rfl ?_
  intro p e s m args below meth c s₁ B hml hv
  obtain ⟨rfl, hP, hK⟩ := hv
  have hts := atoms_spec (ws := Cond.code y cc maxL ret :: zwT) B.pre
  have hown : s.vm.findClass RX1 = some m.cls := by rw [← hyc]; exact findClass_of_methodNamed B.named
  rw [lg_entry_eq]
  exact body p e s m below meth c _ ⟨⟨B.exec, B.bytes, hml, hown, fun w h => hts w (List.mem_cons_of_mem _ h)⟩, hK, Dk⟩ B.returns B.notSynchronized hP (lv_entry av hm)
theorem zt_vret {u' u1 : Zts} (C : ZtC p s m args c cc nL k) (hr : meth.sig.returnType = none) (hlk : meth.locks = false) (hP : ZtP k u1 H) (hS : va_S (ZtA k) s.heap H locs) (eu : u' = u1) (hdg : decode cc pc = .ok (.return_, 1)) :
    W p l e R s m args below meth c H locs 0 0 (MQ below (ZtQ k none u') args s 0 0 (ZtA k)) (F0 m pc ls []) := by
  subst eu
  exact W.vret C.1.1 C.1.2.1 hr (fun t ht _ => ⟨rfl, by rw [ht]; exact hP, hS.F ht⟩) hS.2.2 hdg (hlocks := hlk)
theorem zt_iret {F : Int32 × Zts} {v : Int32} {u1 : Zts} (C : ZtC p s m args c cc nL k) (hr : meth.sig.returnType = some .int) (hlk : meth.locks = false) (hP : ZtP k u1 H) (hS : va_S (ZtA k) s.heap H locs) (eu : F = (v, u1)) (hdg : decode cc pc = .ok (.ireturn, 1)) :
    W p l e R s m args below meth c H locs 0 0 (MQ below (ZtQ k (some (.int F.1)) F.2) args s 0 0 (ZtA k)) (F0 m pc ls [.int v]) := by
  subst eu
  exact W.iret C.1.1 C.1.2.1 hr (fun t ht _ => ⟨rfl, by rw [ht]; exact hP, hS.F ht⟩) hS.2.2 hdg (hlocks := hlk)
theorem zt_rret {ty : FieldType} {r v : Int32} (C : ZtC p s m args c cc nL k) (hr : meth.sig.returnType = some ty) (hn : narrow ty (.int v) = .int v) (hlk : meth.locks = false) (er : r = v) (hdg : decode cc pc = .ok (.ireturn, 1)) :
    W p l e R s m args below meth c s.heap [] 0 0 (MQ below (QcRead r) args s 0 0 (fun _ => False)) (F0 m pc ls [.int v]) := z_sret C.1.1 C.1.2.1 hr hn hlk er hdg
theorem zt_cb {y : MethodName} {bytes : ByteArray} {maxL index n d : Nat} {ret : Option FieldType} (C : ZtC p s m args c cc nL k) (h1 : Cond.code y bytes maxL ret ∈ zwT) (h2 : Cond.methodLink RX1 index y ∈ zwT) (hyc : y.cls = RX1)
    (hd : y.cls ≠ "java/lang/invoke/MethodHandle" ∧ y.cls ≠ "java/lang/invoke/VarHandle" ∧ (parseMethodDescriptor y.desc).map (fun d => d.parameters.length) = some n) (hR : d + 1 ≤ R.frames ∧ 8 + (maxL + 11) + 40 * d ≤ R.locals) :
    CallB R s args RX1 index y bytes maxL ret (.code y bytes maxL ret :: zwT) (zrm d) 0 0 n :=
  callB_of n C.1.2.2.2.2 (fun w h => by
    rcases List.mem_cons.mp h with rfl | h
    · exact zwT_good _ h1
    · exact zwT_good _ h) rfl rfl rfl (by rw [hyc]; exact C.1.2.2.2.2 _ zwT_init) (C.1.2.2.2.2 _ h2) hd hR
theorem zt_callS {y : MethodName} {bytes : ByteArray} {maxL index n d : Nat} {ret : Option FieldType} {r : Int32} {As : List Value} (C : ZtC p s m args c cc nL k) (hM : Met l y (.code y bytes maxL ret :: zwT) (zrm d) (fun a _ => a = As.toArray) (QcRead r) 0 0 (fun _ => False)) (h1 : Cond.code y bytes maxL ret ∈ zwT) (h2 : Cond.methodLink RX1 index y ∈ zwT) (h3 : Cond.static y ∈ zwT) (hyc : y.cls = RX1)
    (hd : y.cls ≠ "java/lang/invoke/MethodHandle" ∧ y.cls ≠ "java/lang/invoke/VarHandle" ∧ (parseMethodDescriptor y.desc).map (fun d => d.parameters.length) = some n) (hsz : ls.size = nL) (hR : d + 1 ≤ R.frames ∧ 8 + (maxL + 11) + 40 * d ≤ R.locals) (hw : (rest.map fun v => v.category).sum ≤ 8) (hn : As.length = n) (hdg : decode cc pc = .ok (.invokestatic index, 3))
    (kk : W p l e R s m args below meth c H locs 0 0 Q (F0 m (pc + 3) ls (.int r :: rest))) : W p l e R s m args below meth c H locs 0 0 Q (F0 m pc ls (As.reverse ++ rest)) :=
  W.callR (W.runS C.1 hM ⟨zt_cb C h1 h2 hyc hd hR, C.1.2.2.2.2 _ h3⟩ preEq rfl hn hsz rfl (lv_room hw) hdg ⟨Nat.zero_le _, Nat.zero_le _⟩) kk
theorem zt_preV {As : List Value} (C : ZtC p s m args c cc nL k) (hP : ZtP k u H) : PreV s H RX1 (zta_this k) (ZtB k (.ref (zta_this k) :: As) u) As :=
  ⟨zt_blind, va_recv C.2.1 hP (ci := 1) (q := (RX1, TX1, 17)) (q0 := 0) rfl rfl, fun U hU hW => ⟨rfl, by rw [hU]; exact hP, va_K.moved hW.alike C.2.1⟩⟩
theorem zt_callR {y : MethodName} {bytes : ByteArray} {maxL index n d : Nat} {ret : Option FieldType} {r : Int32} {As : List Value} (C : ZtC p s m args c cc nL k) (hM : Met l y (.code y bytes maxL ret :: zwT) (zrm d) (ZtB k (.ref (zta_this k) :: As) u) (QcRead r) 0 0 (fun _ => False)) (h1 : Cond.code y bytes maxL ret ∈ zwT) (h2 : Cond.methodLink RX1 index y ∈ zwT) (h3 : Cond.instanceMethod y ∈ zwT) (h4 : Cond.selects RX1 y y ∈ zwT) (hyc : y.cls = RX1)
    (hd : y.cls ≠ "java/lang/invoke/MethodHandle" ∧ y.cls ≠ "java/lang/invoke/VarHandle" ∧ (parseMethodDescriptor y.desc).map (fun d => d.parameters.length) = some n) (hP : ZtP k u H) (hsz : ls.size = nL) (hR : d + 1 ≤ R.frames ∧ 8 + (maxL + 11) + 40 * d ≤ R.locals) (hw : (rest.map fun v => v.category).sum ≤ 8) (hn : As.length = n) (hdg : decode cc pc = .ok (.invokevirtual index, 3))
    (kk : W p l e R s m args below meth c H locs 0 0 Q (F0 m (pc + 3) ls (.int r :: rest))) : W p l e R s m args below meth c H locs 0 0 Q (F0 m pc ls (As.reverse ++ .ref (zta_this k) :: rest)) :=
  W.callR (W.runV C.1 hM ⟨zt_cb C h1 h2 hyc hd hR, C.1.2.2.2.2 _ h3, C.1.2.2.2.2 _ h4⟩ (zt_preV C hP) rfl hn hsz rfl (lv_room hw) hdg ⟨Nat.zero_le _, Nat.zero_le _⟩) kk
theorem zt_callV {y : MethodName} {bytes : ByteArray} {maxL index n d : Nat} {ret : Option FieldType} {v : Option Value} {u' : Zts} {As : List Value} (C : ZtC p s m args c cc nL k) (hM : Met l y (.code y bytes maxL ret :: zwT) (zrm d) (ZtB k (.ref (zta_this k) :: As) u) (ZtQ k v u') 0 0 (ZtA k)) (h1 : Cond.code y bytes maxL ret ∈ zwT) (h2 : Cond.methodLink RX1 index y ∈ zwT) (h3 : Cond.instanceMethod y ∈ zwT) (h4 : Cond.selects RX1 y y ∈ zwT) (hyc : y.cls = RX1)
    (hd : y.cls ≠ "java/lang/invoke/MethodHandle" ∧ y.cls ≠ "java/lang/invoke/VarHandle" ∧ (parseMethodDescriptor y.desc).map (fun d => d.parameters.length) = some n) (hP : ZtP k u H) (hS : va_S (ZtA k) H0 H locs) (hsz : ls.size = nL) (hR : d + 1 ≤ R.frames ∧ 8 + (maxL + 11) + 40 * d ≤ R.locals) (hw : (rest.map fun v => v.category).sum ≤ 8) (hn : As.length = n) (hdg : decode cc pc = .ok (.invokevirtual index, 3))
    (kk : ∀ (H1 : Heap) (locs1 : List Loc), ZtP k u' H1 → va_S (ZtA k) H0 H1 locs1 → W p l e R s m args below meth c H1 locs1 0 0 Q (F0 m (pc + 3) ls (v.toList ++ rest))) : W p l e R s m args below meth c H locs 0 0 Q (F0 m pc ls (As.reverse ++ .ref (zta_this k) :: rest)) := by
  intro T hT X
  obtain ⟨v', st₀, t, T', L, h0, X', hL, e1, e2, ⟨hv, hPt, hz, hk⟩, st⟩ := va_runV C.1 hM ⟨zt_cb C h1 h2 hyc hd hR, C.1.2.2.2.2 _ h3, C.1.2.2.2.2 _ h4⟩ (zt_preV C hP) rfl hn hsz rfl (lv_room hw) hdg ⟨Nat.zero_le _, Nat.zero_le _⟩ T hT X
  cases hv
  rw [h0] at hz hk
  obtain ⟨t2, a1, b1⟩ := kk T'.heap (locs ++ L) (by rw [e1]; exact hPt)
    ⟨Nat.le_trans hS.1 (by rw [e1]; exact hz), fun q g1 g2 => by rw [e1, hk q (Nat.lt_of_lt_of_le g1 hS.1) g2]; exact hS.2.1 q g1 g2, fun q hq => by
      rcases List.mem_append.mp hq with h | h
      · exact hS.2.2 q h
      · exact hL q h⟩ T' rfl X'
  exact ⟨t2, st t2 a1, b1⟩

theorem ztG_thrown {cells slots : Nat} (C : ZtC p s m args c cc nL k) (hP : ZtP k u H) (hdg : decode cc pc = .ok (.getfield 22, 3)) (kk : W p l e R s m args below meth c H locs cells slots Q (F0 m (pc + 3) ls (.int (ztg_thrown u) :: rest))) : W p l e R s m args below meth c H locs cells slots Q (F0 m pc ls (.ref (zta_this k) :: rest)) :=
  va_get (D := k.1) (ci := 1) (v := .int (ztg_thrown u)) (C := RX1) (T := TX1) (N := 17) C.1.1 C.1.2.1 C.1.2.2.2.2 zwT_fld C.1.2.2.2.1 C.2.1 hP 0 rfl rfl 0 (by decide) (C.1.2.2.2.2 _ zwT_f_thrown) (fun _ h => h) rfl hdg kk
theorem ztP_thrown {v : Int32} (C : ZtC p s m args c cc nL k) (hP : ZtP k u H) (hS : va_S (ZtA k) H0 H locs) (hdg : decode cc pc = .ok (.putfield 22, 3)) (kk : ∀ (u1 : Zts) (H1 : Heap) (locs1 : List Loc), u1 = zts_thrown u v → ZtP k u1 H1 → va_S (ZtA k) H0 H1 locs1 → W p l e R s m args below meth c H1 locs1 0 0 Q (F0 m (pc + 3) ls rest)) : W p l e R s m args below meth c H locs 0 0 Q (F0 m pc ls (.int v :: .ref (zta_this k) :: rest)) :=
  va_put (D := k.1) (ci := 1) (v := .int v) (ty := .int) (C := RX1) (T := TX1) (N := 17) C.1.1 C.1.2.1 C.1.2.2.2.2 zwT_fld tyX1 tyX1_ok nmX1 C.1.2.2.2.1 C.2.1 hP (zt_D C.2.2 u) hS 0 rfl rfl 0 (by decide) (C.1.2.2.2.2 _ zwT_f_thrown) (fun _ h => h) rfl (by decide +kernel) rfl rfl (Nat.le_of_ble_eq_true rfl) hdg (fun H1 locs1 hP1 _ hS1 => kk _ H1 locs1 rfl hP1 hS1)
theorem ztG_words {cells slots : Nat} (C : ZtC p s m args c cc nL k) (hP : ZtP k u H) (hdg : decode cc pc = .ok (.getfield 7, 3)) (kk : W p l e R s m args below meth c H locs cells slots Q (F0 m (pc + 3) ls (.ref (zta_words k) :: rest))) : W p l e R s m args below meth c H locs cells slots Q (F0 m pc ls (.ref (zta_this k) :: rest)) :=
  va_get (D := k.1) (ci := 1) (v := .ref (zta_words k)) (C := RX1) (T := TX1) (N := 17) C.1.1 C.1.2.1 C.1.2.2.2.2 zwT_fld C.1.2.2.2.1 C.2.1 hP 0 rfl rfl 1 (by decide) (C.1.2.2.2.2 _ zwT_f_words) (fun _ h => h) rfl hdg kk
theorem ztG_bytes {cells slots : Nat} (C : ZtC p s m args c cc nL k) (hP : ZtP k u H) (hdg : decode cc pc = .ok (.getfield 13, 3)) (kk : W p l e R s m args below meth c H locs cells slots Q (F0 m (pc + 3) ls (.ref (zta_bytes k) :: rest))) : W p l e R s m args below meth c H locs cells slots Q (F0 m pc ls (.ref (zta_this k) :: rest)) :=
  va_get (D := k.1) (ci := 1) (v := .ref (zta_bytes k)) (C := RX1) (T := TX1) (N := 17) C.1.1 C.1.2.1 C.1.2.2.2.2 zwT_fld C.1.2.2.2.1 C.2.1 hP 0 rfl rfl 2 (by decide) (C.1.2.2.2.2 _ zwT_f_bytes) (fun _ h => h) rfl hdg kk
theorem ztG_pc {cells slots : Nat} (C : ZtC p s m args c cc nL k) (hP : ZtP k u H) (hdg : decode cc pc = .ok (.getfield 30, 3)) (kk : W p l e R s m args below meth c H locs cells slots Q (F0 m (pc + 3) ls (.int (ztg_pc u) :: rest))) : W p l e R s m args below meth c H locs cells slots Q (F0 m pc ls (.ref (zta_this k) :: rest)) :=
  va_get (D := k.1) (ci := 1) (v := .int (ztg_pc u)) (C := RX1) (T := TX1) (N := 17) C.1.1 C.1.2.1 C.1.2.2.2.2 zwT_fld C.1.2.2.2.1 C.2.1 hP 0 rfl rfl 3 (by decide) (C.1.2.2.2.2 _ zwT_f_pc) (fun _ h => h) rfl hdg kk
theorem ztP_pc {v : Int32} (C : ZtC p s m args c cc nL k) (hP : ZtP k u H) (hS : va_S (ZtA k) H0 H locs) (hdg : decode cc pc = .ok (.putfield 30, 3)) (kk : ∀ (u1 : Zts) (H1 : Heap) (locs1 : List Loc), u1 = zts_pc u v → ZtP k u1 H1 → va_S (ZtA k) H0 H1 locs1 → W p l e R s m args below meth c H1 locs1 0 0 Q (F0 m (pc + 3) ls rest)) : W p l e R s m args below meth c H locs 0 0 Q (F0 m pc ls (.int v :: .ref (zta_this k) :: rest)) :=
  va_put (D := k.1) (ci := 1) (v := .int v) (ty := .int) (C := RX1) (T := TX1) (N := 17) C.1.1 C.1.2.1 C.1.2.2.2.2 zwT_fld tyX1 tyX1_ok nmX1 C.1.2.2.2.1 C.2.1 hP (zt_D C.2.2 u) hS 0 rfl rfl 3 (by decide) (C.1.2.2.2.2 _ zwT_f_pc) (fun _ h => h) rfl (by decide +kernel) rfl rfl (Nat.le_of_ble_eq_true rfl) hdg (fun H1 locs1 hP1 _ hS1 => kk _ H1 locs1 rfl hP1 hS1)
theorem ztG_sp {cells slots : Nat} (C : ZtC p s m args c cc nL k) (hP : ZtP k u H) (hdg : decode cc pc = .ok (.getfield 33, 3)) (kk : W p l e R s m args below meth c H locs cells slots Q (F0 m (pc + 3) ls (.int (ztg_sp u) :: rest))) : W p l e R s m args below meth c H locs cells slots Q (F0 m pc ls (.ref (zta_this k) :: rest)) :=
  va_get (D := k.1) (ci := 1) (v := .int (ztg_sp u)) (C := RX1) (T := TX1) (N := 17) C.1.1 C.1.2.1 C.1.2.2.2.2 zwT_fld C.1.2.2.2.1 C.2.1 hP 0 rfl rfl 4 (by decide) (C.1.2.2.2.2 _ zwT_f_sp) (fun _ h => h) rfl hdg kk
theorem ztP_sp {v : Int32} (C : ZtC p s m args c cc nL k) (hP : ZtP k u H) (hS : va_S (ZtA k) H0 H locs) (hdg : decode cc pc = .ok (.putfield 33, 3)) (kk : ∀ (u1 : Zts) (H1 : Heap) (locs1 : List Loc), u1 = zts_sp u v → ZtP k u1 H1 → va_S (ZtA k) H0 H1 locs1 → W p l e R s m args below meth c H1 locs1 0 0 Q (F0 m (pc + 3) ls rest)) : W p l e R s m args below meth c H locs 0 0 Q (F0 m pc ls (.int v :: .ref (zta_this k) :: rest)) :=
  va_put (D := k.1) (ci := 1) (v := .int v) (ty := .int) (C := RX1) (T := TX1) (N := 17) C.1.1 C.1.2.1 C.1.2.2.2.2 zwT_fld tyX1 tyX1_ok nmX1 C.1.2.2.2.1 C.2.1 hP (zt_D C.2.2 u) hS 0 rfl rfl 4 (by decide) (C.1.2.2.2.2 _ zwT_f_sp) (fun _ h => h) rfl (by decide +kernel) rfl rfl (Nat.le_of_ble_eq_true rfl) hdg (fun H1 locs1 hP1 _ hS1 => kk _ H1 locs1 rfl hP1 hS1)
theorem ztG_lv {cells slots : Nat} (C : ZtC p s m args c cc nL k) (hP : ZtP k u H) (hdg : decode cc pc = .ok (.getfield 36, 3)) (kk : W p l e R s m args below meth c H locs cells slots Q (F0 m (pc + 3) ls (.int (ztg_lv u) :: rest))) : W p l e R s m args below meth c H locs cells slots Q (F0 m pc ls (.ref (zta_this k) :: rest)) :=
  va_get (D := k.1) (ci := 1) (v := .int (ztg_lv u)) (C := RX1) (T := TX1) (N := 17) C.1.1 C.1.2.1 C.1.2.2.2.2 zwT_fld C.1.2.2.2.1 C.2.1 hP 0 rfl rfl 5 (by decide) (C.1.2.2.2.2 _ zwT_f_lv) (fun _ h => h) rfl hdg kk
theorem ztP_lv {v : Int32} (C : ZtC p s m args c cc nL k) (hP : ZtP k u H) (hS : va_S (ZtA k) H0 H locs) (hdg : decode cc pc = .ok (.putfield 36, 3)) (kk : ∀ (u1 : Zts) (H1 : Heap) (locs1 : List Loc), u1 = zts_lv u v → ZtP k u1 H1 → va_S (ZtA k) H0 H1 locs1 → W p l e R s m args below meth c H1 locs1 0 0 Q (F0 m (pc + 3) ls rest)) : W p l e R s m args below meth c H locs 0 0 Q (F0 m pc ls (.int v :: .ref (zta_this k) :: rest)) :=
  va_put (D := k.1) (ci := 1) (v := .int v) (ty := .int) (C := RX1) (T := TX1) (N := 17) C.1.1 C.1.2.1 C.1.2.2.2.2 zwT_fld tyX1 tyX1_ok nmX1 C.1.2.2.2.1 C.2.1 hP (zt_D C.2.2 u) hS 0 rfl rfl 5 (by decide) (C.1.2.2.2.2 _ zwT_f_lv) (fun _ h => h) rfl (by decide +kernel) rfl rfl (Nat.le_of_ble_eq_true rfl) hdg (fun H1 locs1 hP1 _ hS1 => kk _ H1 locs1 rfl hP1 hS1)
theorem ztG_cpp {cells slots : Nat} (C : ZtC p s m args c cc nL k) (hP : ZtP k u H) (hdg : decode cc pc = .ok (.getfield 39, 3)) (kk : W p l e R s m args below meth c H locs cells slots Q (F0 m (pc + 3) ls (.int (ztg_cpp u) :: rest))) : W p l e R s m args below meth c H locs cells slots Q (F0 m pc ls (.ref (zta_this k) :: rest)) :=
  va_get (D := k.1) (ci := 1) (v := .int (ztg_cpp u)) (C := RX1) (T := TX1) (N := 17) C.1.1 C.1.2.1 C.1.2.2.2.2 zwT_fld C.1.2.2.2.1 C.2.1 hP 0 rfl rfl 6 (by decide) (C.1.2.2.2.2 _ zwT_f_cpp) (fun _ h => h) rfl hdg kk
theorem ztP_cpp {v : Int32} (C : ZtC p s m args c cc nL k) (hP : ZtP k u H) (hS : va_S (ZtA k) H0 H locs) (hdg : decode cc pc = .ok (.putfield 39, 3)) (kk : ∀ (u1 : Zts) (H1 : Heap) (locs1 : List Loc), u1 = zts_cpp u v → ZtP k u1 H1 → va_S (ZtA k) H0 H1 locs1 → W p l e R s m args below meth c H1 locs1 0 0 Q (F0 m (pc + 3) ls rest)) : W p l e R s m args below meth c H locs 0 0 Q (F0 m pc ls (.int v :: .ref (zta_this k) :: rest)) :=
  va_put (D := k.1) (ci := 1) (v := .int v) (ty := .int) (C := RX1) (T := TX1) (N := 17) C.1.1 C.1.2.1 C.1.2.2.2.2 zwT_fld tyX1 tyX1_ok nmX1 C.1.2.2.2.1 C.2.1 hP (zt_D C.2.2 u) hS 0 rfl rfl 6 (by decide) (C.1.2.2.2.2 _ zwT_f_cpp) (fun _ h => h) rfl (by decide +kernel) rfl rfl (Nat.le_of_ble_eq_true rfl) hdg (fun H1 locs1 hP1 _ hS1 => kk _ H1 locs1 rfl hP1 hS1)
theorem ztG_top {cells slots : Nat} (C : ZtC p s m args c cc nL k) (hP : ZtP k u H) (hdg : decode cc pc = .ok (.getfield 42, 3)) (kk : W p l e R s m args below meth c H locs cells slots Q (F0 m (pc + 3) ls (.int (ztg_top u) :: rest))) : W p l e R s m args below meth c H locs cells slots Q (F0 m pc ls (.ref (zta_this k) :: rest)) :=
  va_get (D := k.1) (ci := 1) (v := .int (ztg_top u)) (C := RX1) (T := TX1) (N := 17) C.1.1 C.1.2.1 C.1.2.2.2.2 zwT_fld C.1.2.2.2.1 C.2.1 hP 0 rfl rfl 7 (by decide) (C.1.2.2.2.2 _ zwT_f_top) (fun _ h => h) rfl hdg kk
theorem ztP_top {v : Int32} (C : ZtC p s m args c cc nL k) (hP : ZtP k u H) (hS : va_S (ZtA k) H0 H locs) (hdg : decode cc pc = .ok (.putfield 42, 3)) (kk : ∀ (u1 : Zts) (H1 : Heap) (locs1 : List Loc), u1 = zts_top u v → ZtP k u1 H1 → va_S (ZtA k) H0 H1 locs1 → W p l e R s m args below meth c H1 locs1 0 0 Q (F0 m (pc + 3) ls rest)) : W p l e R s m args below meth c H locs 0 0 Q (F0 m pc ls (.int v :: .ref (zta_this k) :: rest)) :=
  va_put (D := k.1) (ci := 1) (v := .int v) (ty := .int) (C := RX1) (T := TX1) (N := 17) C.1.1 C.1.2.1 C.1.2.2.2.2 zwT_fld tyX1 tyX1_ok nmX1 C.1.2.2.2.1 C.2.1 hP (zt_D C.2.2 u) hS 0 rfl rfl 7 (by decide) (C.1.2.2.2.2 _ zwT_f_top) (fun _ h => h) rfl (by decide +kernel) rfl rfl (Nat.le_of_ble_eq_true rfl) hdg (fun H1 locs1 hP1 _ hS1 => kk _ H1 locs1 rfl hP1 hS1)
theorem ztG_state {cells slots : Nat} (C : ZtC p s m args c cc nL k) (hP : ZtP k u H) (hdg : decode cc pc = .ok (.getfield 45, 3)) (kk : W p l e R s m args below meth c H locs cells slots Q (F0 m (pc + 3) ls (.int (ztg_state u) :: rest))) : W p l e R s m args below meth c H locs cells slots Q (F0 m pc ls (.ref (zta_this k) :: rest)) :=
  va_get (D := k.1) (ci := 1) (v := .int (ztg_state u)) (C := RX1) (T := TX1) (N := 17) C.1.1 C.1.2.1 C.1.2.2.2.2 zwT_fld C.1.2.2.2.1 C.2.1 hP 0 rfl rfl 8 (by decide) (C.1.2.2.2.2 _ zwT_f_state) (fun _ h => h) rfl hdg kk
theorem ztP_state {v : Int32} (C : ZtC p s m args c cc nL k) (hP : ZtP k u H) (hS : va_S (ZtA k) H0 H locs) (hdg : decode cc pc = .ok (.putfield 45, 3)) (kk : ∀ (u1 : Zts) (H1 : Heap) (locs1 : List Loc), u1 = zts_state u v → ZtP k u1 H1 → va_S (ZtA k) H0 H1 locs1 → W p l e R s m args below meth c H1 locs1 0 0 Q (F0 m (pc + 3) ls rest)) : W p l e R s m args below meth c H locs 0 0 Q (F0 m pc ls (.int v :: .ref (zta_this k) :: rest)) :=
  va_put (D := k.1) (ci := 1) (v := .int v) (ty := .int) (C := RX1) (T := TX1) (N := 17) C.1.1 C.1.2.1 C.1.2.2.2.2 zwT_fld tyX1 tyX1_ok nmX1 C.1.2.2.2.1 C.2.1 hP (zt_D C.2.2 u) hS 0 rfl rfl 8 (by decide) (C.1.2.2.2.2 _ zwT_f_state) (fun _ h => h) rfl (by decide +kernel) rfl rfl (Nat.le_of_ble_eq_true rfl) hdg (fun H1 locs1 hP1 _ hS1 => kk _ H1 locs1 rfl hP1 hS1)
theorem ztG_cycles {cells slots : Nat} (C : ZtC p s m args c cc nL k) (hP : ZtP k u H) (hdg : decode cc pc = .ok (.getfield 48, 3)) (kk : W p l e R s m args below meth c H locs cells slots Q (F0 m (pc + 3) ls (.int (ztg_cycles u) :: rest))) : W p l e R s m args below meth c H locs cells slots Q (F0 m pc ls (.ref (zta_this k) :: rest)) :=
  va_get (D := k.1) (ci := 1) (v := .int (ztg_cycles u)) (C := RX1) (T := TX1) (N := 17) C.1.1 C.1.2.1 C.1.2.2.2.2 zwT_fld C.1.2.2.2.1 C.2.1 hP 0 rfl rfl 9 (by decide) (C.1.2.2.2.2 _ zwT_f_cycles) (fun _ h => h) rfl hdg kk
theorem ztP_cycles {v : Int32} (C : ZtC p s m args c cc nL k) (hP : ZtP k u H) (hS : va_S (ZtA k) H0 H locs) (hdg : decode cc pc = .ok (.putfield 48, 3)) (kk : ∀ (u1 : Zts) (H1 : Heap) (locs1 : List Loc), u1 = zts_cycles u v → ZtP k u1 H1 → va_S (ZtA k) H0 H1 locs1 → W p l e R s m args below meth c H1 locs1 0 0 Q (F0 m (pc + 3) ls rest)) : W p l e R s m args below meth c H locs 0 0 Q (F0 m pc ls (.int v :: .ref (zta_this k) :: rest)) :=
  va_put (D := k.1) (ci := 1) (v := .int v) (ty := .int) (C := RX1) (T := TX1) (N := 17) C.1.1 C.1.2.1 C.1.2.2.2.2 zwT_fld tyX1 tyX1_ok nmX1 C.1.2.2.2.1 C.2.1 hP (zt_D C.2.2 u) hS 0 rfl rfl 9 (by decide) (C.1.2.2.2.2 _ zwT_f_cycles) (fun _ h => h) rfl (by decide +kernel) rfl rfl (Nat.le_of_ble_eq_true rfl) hdg (fun H1 locs1 hP1 _ hS1 => kk _ H1 locs1 rfl hP1 hS1)
theorem ztG_done {cells slots : Nat} (C : ZtC p s m args c cc nL k) (hP : ZtP k u H) (hdg : decode cc pc = .ok (.getfield 51, 3)) (kk : W p l e R s m args below meth c H locs cells slots Q (F0 m (pc + 3) ls (.int (ztg_done u) :: rest))) : W p l e R s m args below meth c H locs cells slots Q (F0 m pc ls (.ref (zta_this k) :: rest)) :=
  va_get (D := k.1) (ci := 1) (v := .int (ztg_done u)) (C := RX1) (T := TX1) (N := 17) C.1.1 C.1.2.1 C.1.2.2.2.2 zwT_fld C.1.2.2.2.1 C.2.1 hP 0 rfl rfl 10 (by decide) (C.1.2.2.2.2 _ zwT_f_done) (fun _ h => h) rfl hdg kk
theorem ztP_done {v : Int32} (C : ZtC p s m args c cc nL k) (hP : ZtP k u H) (hS : va_S (ZtA k) H0 H locs) (hdg : decode cc pc = .ok (.putfield 51, 3)) (kk : ∀ (u1 : Zts) (H1 : Heap) (locs1 : List Loc), u1 = zts_done u v → ZtP k u1 H1 → va_S (ZtA k) H0 H1 locs1 → W p l e R s m args below meth c H1 locs1 0 0 Q (F0 m (pc + 3) ls rest)) : W p l e R s m args below meth c H locs 0 0 Q (F0 m pc ls (.int v :: .ref (zta_this k) :: rest)) :=
  va_put (D := k.1) (ci := 1) (v := .int v) (ty := .int) (C := RX1) (T := TX1) (N := 17) C.1.1 C.1.2.1 C.1.2.2.2.2 zwT_fld tyX1 tyX1_ok nmX1 C.1.2.2.2.1 C.2.1 hP (zt_D C.2.2 u) hS 0 rfl rfl 10 (by decide) (C.1.2.2.2.2 _ zwT_f_done) (fun _ h => h) rfl (by decide +kernel) rfl rfl (Nat.le_of_ble_eq_true rfl) hdg (fun H1 locs1 hP1 _ hS1 => kk _ H1 locs1 rfl hP1 hS1)
theorem ztG_next {cells slots : Nat} (C : ZtC p s m args c cc nL k) (hP : ZtP k u H) (hdg : decode cc pc = .ok (.getfield 72, 3)) (kk : W p l e R s m args below meth c H locs cells slots Q (F0 m (pc + 3) ls (.int (ztg_next u) :: rest))) : W p l e R s m args below meth c H locs cells slots Q (F0 m pc ls (.ref (zta_this k) :: rest)) :=
  va_get (D := k.1) (ci := 1) (v := .int (ztg_next u)) (C := RX1) (T := TX1) (N := 17) C.1.1 C.1.2.1 C.1.2.2.2.2 zwT_fld C.1.2.2.2.1 C.2.1 hP 0 rfl rfl 11 (by decide) (C.1.2.2.2.2 _ zwT_f_next) (fun _ h => h) rfl hdg kk
theorem ztP_next {v : Int32} (C : ZtC p s m args c cc nL k) (hP : ZtP k u H) (hS : va_S (ZtA k) H0 H locs) (hdg : decode cc pc = .ok (.putfield 72, 3)) (kk : ∀ (u1 : Zts) (H1 : Heap) (locs1 : List Loc), u1 = zts_next u v → ZtP k u1 H1 → va_S (ZtA k) H0 H1 locs1 → W p l e R s m args below meth c H1 locs1 0 0 Q (F0 m (pc + 3) ls rest)) : W p l e R s m args below meth c H locs 0 0 Q (F0 m pc ls (.int v :: .ref (zta_this k) :: rest)) :=
  va_put (D := k.1) (ci := 1) (v := .int v) (ty := .int) (C := RX1) (T := TX1) (N := 17) C.1.1 C.1.2.1 C.1.2.2.2.2 zwT_fld tyX1 tyX1_ok nmX1 C.1.2.2.2.1 C.2.1 hP (zt_D C.2.2 u) hS 0 rfl rfl 11 (by decide) (C.1.2.2.2.2 _ zwT_f_next) (fun _ h => h) rfl (by decide +kernel) rfl rfl (Nat.le_of_ble_eq_true rfl) hdg (fun H1 locs1 hP1 _ hS1 => kk _ H1 locs1 rfl hP1 hS1)
theorem ztG_amiss {cells slots : Nat} (C : ZtC p s m args c cc nL k) (hP : ZtP k u H) (hdg : decode cc pc = .ok (.getfield 54, 3)) (kk : W p l e R s m args below meth c H locs cells slots Q (F0 m (pc + 3) ls (.int (ztg_amiss u) :: rest))) : W p l e R s m args below meth c H locs cells slots Q (F0 m pc ls (.ref (zta_this k) :: rest)) :=
  va_get (D := k.1) (ci := 1) (v := .int (ztg_amiss u)) (C := RX1) (T := TX1) (N := 17) C.1.1 C.1.2.1 C.1.2.2.2.2 zwT_fld C.1.2.2.2.1 C.2.1 hP 0 rfl rfl 12 (by decide) (C.1.2.2.2.2 _ zwT_f_amiss) (fun _ h => h) rfl hdg kk
theorem ztP_amiss {v : Int32} (C : ZtC p s m args c cc nL k) (hP : ZtP k u H) (hS : va_S (ZtA k) H0 H locs) (hn : narrow .boolean (.int v) = .int v) (hf : fits .boolean (.int v) = true) (hdg : decode cc pc = .ok (.putfield 54, 3)) (kk : ∀ (u1 : Zts) (H1 : Heap) (locs1 : List Loc), u1 = zts_amiss u v → ZtP k u1 H1 → va_S (ZtA k) H0 H1 locs1 → W p l e R s m args below meth c H1 locs1 0 0 Q (F0 m (pc + 3) ls rest)) : W p l e R s m args below meth c H locs 0 0 Q (F0 m pc ls (.int v :: .ref (zta_this k) :: rest)) :=
  va_put (D := k.1) (ci := 1) (v := .int v) (ty := .boolean) (C := RX1) (T := TX1) (N := 17) C.1.1 C.1.2.1 C.1.2.2.2.2 zwT_fld tyX1 tyX1_ok nmX1 C.1.2.2.2.1 C.2.1 hP (zt_D C.2.2 u) hS 0 rfl rfl 12 (by decide) (C.1.2.2.2.2 _ zwT_f_amiss) (fun _ h => h) rfl (by decide +kernel) hn hf (Nat.le_of_ble_eq_true rfl) hdg (fun H1 locs1 hP1 _ hS1 => kk _ H1 locs1 rfl hP1 hS1)
theorem ztG_unknown {cells slots : Nat} (C : ZtC p s m args c cc nL k) (hP : ZtP k u H) (hdg : decode cc pc = .ok (.getfield 75, 3)) (kk : W p l e R s m args below meth c H locs cells slots Q (F0 m (pc + 3) ls (.int (ztg_unknown u) :: rest))) : W p l e R s m args below meth c H locs cells slots Q (F0 m pc ls (.ref (zta_this k) :: rest)) :=
  va_get (D := k.1) (ci := 1) (v := .int (ztg_unknown u)) (C := RX1) (T := TX1) (N := 17) C.1.1 C.1.2.1 C.1.2.2.2.2 zwT_fld C.1.2.2.2.1 C.2.1 hP 0 rfl rfl 13 (by decide) (C.1.2.2.2.2 _ zwT_f_unknown) (fun _ h => h) rfl hdg kk
theorem ztP_unknown {v : Int32} (C : ZtC p s m args c cc nL k) (hP : ZtP k u H) (hS : va_S (ZtA k) H0 H locs) (hn : narrow .boolean (.int v) = .int v) (hf : fits .boolean (.int v) = true) (hdg : decode cc pc = .ok (.putfield 75, 3)) (kk : ∀ (u1 : Zts) (H1 : Heap) (locs1 : List Loc), u1 = zts_unknown u v → ZtP k u1 H1 → va_S (ZtA k) H0 H1 locs1 → W p l e R s m args below meth c H1 locs1 0 0 Q (F0 m (pc + 3) ls rest)) : W p l e R s m args below meth c H locs 0 0 Q (F0 m pc ls (.int v :: .ref (zta_this k) :: rest)) :=
  va_put (D := k.1) (ci := 1) (v := .int v) (ty := .boolean) (C := RX1) (T := TX1) (N := 17) C.1.1 C.1.2.1 C.1.2.2.2.2 zwT_fld tyX1 tyX1_ok nmX1 C.1.2.2.2.1 C.2.1 hP (zt_D C.2.2 u) hS 0 rfl rfl 13 (by decide) (C.1.2.2.2.2 _ zwT_f_unknown) (fun _ h => h) rfl (by decide +kernel) hn hf (Nat.le_of_ble_eq_true rfl) hdg (fun H1 locs1 hP1 _ hS1 => kk _ H1 locs1 rfl hP1 hS1)
theorem ztG_writes {cells slots : Nat} (C : ZtC p s m args c cc nL k) (hP : ZtP k u H) (hdg : decode cc pc = .ok (.getfield 58, 3)) (kk : W p l e R s m args below meth c H locs cells slots Q (F0 m (pc + 3) ls (.int (ztg_writes u) :: rest))) : W p l e R s m args below meth c H locs cells slots Q (F0 m pc ls (.ref (zta_this k) :: rest)) :=
  va_get (D := k.1) (ci := 1) (v := .int (ztg_writes u)) (C := RX1) (T := TX1) (N := 17) C.1.1 C.1.2.1 C.1.2.2.2.2 zwT_fld C.1.2.2.2.1 C.2.1 hP 0 rfl rfl 14 (by decide) (C.1.2.2.2.2 _ zwT_f_writes) (fun _ h => h) rfl hdg kk
theorem ztP_writes {v : Int32} (C : ZtC p s m args c cc nL k) (hP : ZtP k u H) (hS : va_S (ZtA k) H0 H locs) (hdg : decode cc pc = .ok (.putfield 58, 3)) (kk : ∀ (u1 : Zts) (H1 : Heap) (locs1 : List Loc), u1 = zts_writes u v → ZtP k u1 H1 → va_S (ZtA k) H0 H1 locs1 → W p l e R s m args below meth c H1 locs1 0 0 Q (F0 m (pc + 3) ls rest)) : W p l e R s m args below meth c H locs 0 0 Q (F0 m pc ls (.int v :: .ref (zta_this k) :: rest)) :=
  va_put (D := k.1) (ci := 1) (v := .int v) (ty := .int) (C := RX1) (T := TX1) (N := 17) C.1.1 C.1.2.1 C.1.2.2.2.2 zwT_fld tyX1 tyX1_ok nmX1 C.1.2.2.2.1 C.2.1 hP (zt_D C.2.2 u) hS 0 rfl rfl 14 (by decide) (C.1.2.2.2.2 _ zwT_f_writes) (fun _ h => h) rfl (by decide +kernel) rfl rfl (Nat.le_of_ble_eq_true rfl) hdg (fun H1 locs1 hP1 _ hS1 => kk _ H1 locs1 rfl hP1 hS1)
theorem ztG_places {cells slots : Nat} (C : ZtC p s m args c cc nL k) (hP : ZtP k u H) (hdg : decode cc pc = .ok (.getfield 16, 3)) (kk : W p l e R s m args below meth c H locs cells slots Q (F0 m (pc + 3) ls (.ref (zta_places k) :: rest))) : W p l e R s m args below meth c H locs cells slots Q (F0 m pc ls (.ref (zta_this k) :: rest)) :=
  va_get (D := k.1) (ci := 1) (v := .ref (zta_places k)) (C := RX1) (T := TX1) (N := 17) C.1.1 C.1.2.1 C.1.2.2.2.2 zwT_fld C.1.2.2.2.1 C.2.1 hP 0 rfl rfl 15 (by decide) (C.1.2.2.2.2 _ zwT_f_places) (fun _ h => h) rfl hdg kk
theorem ztG_before {cells slots : Nat} (C : ZtC p s m args c cc nL k) (hP : ZtP k u H) (hdg : decode cc pc = .ok (.getfield 19, 3)) (kk : W p l e R s m args below meth c H locs cells slots Q (F0 m (pc + 3) ls (.ref (zta_before k) :: rest))) : W p l e R s m args below meth c H locs cells slots Q (F0 m pc ls (.ref (zta_this k) :: rest)) :=
  va_get (D := k.1) (ci := 1) (v := .ref (zta_before k)) (C := RX1) (T := TX1) (N := 17) C.1.1 C.1.2.1 C.1.2.2.2.2 zwT_fld C.1.2.2.2.1 C.2.1 hP 0 rfl rfl 16 (by decide) (C.1.2.2.2.2 _ zwT_f_before) (fun _ h => h) rfl hdg kk
theorem ztL_words {cells slots : Nat} {i : Int32} (C : ZtC p s m args c cc nL k) (hP : ZtP k u H) (hin : vp_in i 256) (hdg : decode cc pc = .ok (.iaload, 1)) (kk : W p l e R s m args below meth c H locs cells slots Q (F0 m (pc + 1) ls (.int (ztg_words u i.toNatClampNeg) :: rest))) : W p l e R s m args below meth c H locs cells slots Q (F0 m pc ls (.int i :: .ref (zta_words k) :: rest)) :=
  va_iald (D := k.1) (f := ztg_words u) C.1.1 C.1.2.1 C.2.1 hP 1 0 rfl rfl hin hdg kk
theorem ztS_words {i v : Int32} (C : ZtC p s m args c cc nL k) (hP : ZtP k u H) (hS : va_S (ZtA k) H0 H locs) (hin : vp_in i 256) (hdg : decode cc pc = .ok (.iastore, 1)) (kk : ∀ (u1 : Zts) (H1 : Heap) (locs1 : List Loc), u1 = zts_words u (upd (ztg_words u) i.toNatClampNeg v) → ZtP k u1 H1 → va_S (ZtA k) H0 H1 locs1 → W p l e R s m args below meth c H1 locs1 0 0 Q (F0 m (pc + 1) ls rest)) : W p l e R s m args below meth c H locs 0 0 Q (F0 m pc ls (.int v :: .int i :: .ref (zta_words k) :: rest)) :=
  va_iast (D := k.1) (f := ztg_words u) C.1.1 C.1.2.1 C.2.1 hP (zt_D C.2.2 u) hS 1 0 rfl rfl hin hdg (fun H1 locs1 hP1 _ hS1 => kk _ H1 locs1 rfl hP1 hS1)
theorem ztL_bytes {cells slots : Nat} {i : Int32} (C : ZtC p s m args c cc nL k) (hP : ZtP k u H) (hin : vp_in i 512) (hdg : decode cc pc = .ok (.iaload, 1)) (kk : W p l e R s m args below meth c H locs cells slots Q (F0 m (pc + 1) ls (.int (ztg_bytes u i.toNatClampNeg) :: rest))) : W p l e R s m args below meth c H locs cells slots Q (F0 m pc ls (.int i :: .ref (zta_bytes k) :: rest)) :=
  va_iald (D := k.1) (f := ztg_bytes u) C.1.1 C.1.2.1 C.2.1 hP 2 1 rfl rfl hin hdg kk
theorem ztS_bytes {i v : Int32} (C : ZtC p s m args c cc nL k) (hP : ZtP k u H) (hS : va_S (ZtA k) H0 H locs) (hin : vp_in i 512) (hdg : decode cc pc = .ok (.iastore, 1)) (kk : ∀ (u1 : Zts) (H1 : Heap) (locs1 : List Loc), u1 = zts_bytes u (upd (ztg_bytes u) i.toNatClampNeg v) → ZtP k u1 H1 → va_S (ZtA k) H0 H1 locs1 → W p l e R s m args below meth c H1 locs1 0 0 Q (F0 m (pc + 1) ls rest)) : W p l e R s m args below meth c H locs 0 0 Q (F0 m pc ls (.int v :: .int i :: .ref (zta_bytes k) :: rest)) :=
  va_iast (D := k.1) (f := ztg_bytes u) C.1.1 C.1.2.1 C.2.1 hP (zt_D C.2.2 u) hS 2 1 rfl rfl hin hdg (fun H1 locs1 hP1 _ hS1 => kk _ H1 locs1 rfl hP1 hS1)
theorem ztL_places {cells slots : Nat} {i : Int32} (C : ZtC p s m args c cc nL k) (hP : ZtP k u H) (hin : vp_in i 8) (hdg : decode cc pc = .ok (.iaload, 1)) (kk : W p l e R s m args below meth c H locs cells slots Q (F0 m (pc + 1) ls (.int (ztg_places u i.toNatClampNeg) :: rest))) : W p l e R s m args below meth c H locs cells slots Q (F0 m pc ls (.int i :: .ref (zta_places k) :: rest)) :=
  va_iald (D := k.1) (f := ztg_places u) C.1.1 C.1.2.1 C.2.1 hP 3 2 rfl rfl hin hdg kk
theorem ztS_places {i v : Int32} (C : ZtC p s m args c cc nL k) (hP : ZtP k u H) (hS : va_S (ZtA k) H0 H locs) (hin : vp_in i 8) (hdg : decode cc pc = .ok (.iastore, 1)) (kk : ∀ (u1 : Zts) (H1 : Heap) (locs1 : List Loc), u1 = zts_places u (upd (ztg_places u) i.toNatClampNeg v) → ZtP k u1 H1 → va_S (ZtA k) H0 H1 locs1 → W p l e R s m args below meth c H1 locs1 0 0 Q (F0 m (pc + 1) ls rest)) : W p l e R s m args below meth c H locs 0 0 Q (F0 m pc ls (.int v :: .int i :: .ref (zta_places k) :: rest)) :=
  va_iast (D := k.1) (f := ztg_places u) C.1.1 C.1.2.1 C.2.1 hP (zt_D C.2.2 u) hS 3 2 rfl rfl hin hdg (fun H1 locs1 hP1 _ hS1 => kk _ H1 locs1 rfl hP1 hS1)
theorem ztL_before {cells slots : Nat} {i : Int32} (C : ZtC p s m args c cc nL k) (hP : ZtP k u H) (hin : vp_in i 8) (hdg : decode cc pc = .ok (.iaload, 1)) (kk : W p l e R s m args below meth c H locs cells slots Q (F0 m (pc + 1) ls (.int (ztg_before u i.toNatClampNeg) :: rest))) : W p l e R s m args below meth c H locs cells slots Q (F0 m pc ls (.int i :: .ref (zta_before k) :: rest)) :=
  va_iald (D := k.1) (f := ztg_before u) C.1.1 C.1.2.1 C.2.1 hP 4 3 rfl rfl hin hdg kk
theorem ztS_before {i v : Int32} (C : ZtC p s m args c cc nL k) (hP : ZtP k u H) (hS : va_S (ZtA k) H0 H locs) (hin : vp_in i 8) (hdg : decode cc pc = .ok (.iastore, 1)) (kk : ∀ (u1 : Zts) (H1 : Heap) (locs1 : List Loc), u1 = zts_before u (upd (ztg_before u) i.toNatClampNeg v) → ZtP k u1 H1 → va_S (ZtA k) H0 H1 locs1 → W p l e R s m args below meth c H1 locs1 0 0 Q (F0 m (pc + 1) ls rest)) : W p l e R s m args below meth c H locs 0 0 Q (F0 m pc ls (.int v :: .int i :: .ref (zta_before k) :: rest)) :=
  va_iast (D := k.1) (f := ztg_before u) C.1.1 C.1.2.1 C.2.1 hP (zt_D C.2.2 u) hS 4 3 rfl rfl hin hdg (fun H1 locs1 hP1 _ hS1 => kk _ H1 locs1 rfl hP1 hS1)
end ZtRows
theorem zwT_c_isWord : Cond.code yX1_isWord cX1_isWord 1 (some .boolean) ∈ zwT := List.mem_cons_of_mem _ (List.mem_cons_of_mem _ (List.mem_append_left _ (List.mem_append_right _ (List.mem_append_left _ (List.mem_of_getElem? (i := 11) rfl)))))
theorem zwT_l_isWord : Cond.methodLink RX1 26 yX1_isWord ∈ zwT := List.mem_cons_of_mem _ (List.mem_cons_of_mem _ (List.mem_append_left _ (List.mem_append_right _ (List.mem_append_left _ (List.mem_of_getElem? (i := 9) rfl)))))
theorem zwT_s_isWord : Cond.static yX1_isWord ∈ zwT := List.mem_cons_of_mem _ (List.mem_cons_of_mem _ (List.mem_append_left _ (List.mem_append_right _ (List.mem_append_left _ (List.mem_of_getElem? (i := 10) rfl)))))
theorem zwT_c_byteAt : Cond.code yX1_byteAt cX1_byteAt 3 (some .int) ∈ zwT := List.mem_cons_of_mem _ (List.mem_cons_of_mem _ (List.mem_append_left _ (List.mem_append_left _ (List.mem_of_getElem? (i := 18) rfl))))
theorem zwT_l_byteAt : Cond.methodLink RX1 61 yX1_byteAt ∈ zwT := List.mem_cons_of_mem _ (List.mem_cons_of_mem _ (List.mem_append_left _ (List.mem_append_left _ (List.mem_of_getElem? (i := 14) rfl))))
theorem zwT_i_byteAt : Cond.instanceMethod yX1_byteAt ∈ zwT := List.mem_cons_of_mem _ (List.mem_cons_of_mem _ (List.mem_append_left _ (List.mem_append_left _ (List.mem_of_getElem? (i := 15) rfl))))
theorem zwT_v_byteAt : Cond.selects RX1 yX1_byteAt yX1_byteAt ∈ zwT := List.mem_cons_of_mem _ (List.mem_cons_of_mem _ (List.mem_append_left _ (List.mem_append_left _ (List.mem_of_getElem? (i := 16) rfl))))
theorem zwT_c_read : Cond.code yX1_read cX1_read 2 (some .int) ∈ zwT := List.mem_cons_of_mem _ (List.mem_cons_of_mem _ (List.mem_append_left _ (List.mem_append_right _ (List.mem_append_left _ (List.mem_of_getElem? (i := 8) rfl)))))
theorem zwT_l_read : Cond.methodLink RX1 65 yX1_read ∈ zwT := List.mem_cons_of_mem _ (List.mem_cons_of_mem _ (List.mem_append_left _ (List.mem_append_right _ (List.mem_append_left _ (List.mem_of_getElem? (i := 5) rfl)))))
theorem zwT_i_read : Cond.instanceMethod yX1_read ∈ zwT := List.mem_cons_of_mem _ (List.mem_cons_of_mem _ (List.mem_append_left _ (List.mem_append_right _ (List.mem_append_left _ (List.mem_of_getElem? (i := 6) rfl)))))
theorem zwT_v_read : Cond.selects RX1 yX1_read yX1_read ∈ zwT := List.mem_cons_of_mem _ (List.mem_cons_of_mem _ (List.mem_append_left _ (List.mem_append_right _ (List.mem_append_left _ (List.mem_of_getElem? (i := 7) rfl)))))
theorem zwT_c_write : Cond.code yX1_write cX1_write 3 none ∈ zwT := List.mem_cons_of_mem _ (List.mem_cons_of_mem _ (List.mem_append_left _ (List.mem_append_right _ (List.mem_append_left _ (List.mem_of_getElem? (i := 15) rfl)))))
theorem zwT_l_write : Cond.methodLink RX1 68 yX1_write ∈ zwT := List.mem_cons_of_mem _ (List.mem_cons_of_mem _ (List.mem_append_left _ (List.mem_append_right _ (List.mem_append_left _ (List.mem_of_getElem? (i := 12) rfl)))))
theorem zwT_i_write : Cond.instanceMethod yX1_write ∈ zwT := List.mem_cons_of_mem _ (List.mem_cons_of_mem _ (List.mem_append_left _ (List.mem_append_right _ (List.mem_append_left _ (List.mem_of_getElem? (i := 13) rfl)))))
theorem zwT_v_write : Cond.selects RX1 yX1_write yX1_write ∈ zwT := List.mem_cons_of_mem _ (List.mem_cons_of_mem _ (List.mem_append_left _ (List.mem_append_right _ (List.mem_append_left _ (List.mem_of_getElem? (i := 14) rfl)))))
theorem zwT_c_pair : Cond.code yX1_pair cX1_pair 3 (some .int) ∈ zwT := List.mem_cons_of_mem _ (List.mem_cons_of_mem _ (List.mem_append_left _ (List.mem_append_right _ (List.mem_append_right _ (List.mem_append_left _ (List.mem_of_getElem? (i := 14) rfl))))))
theorem zwT_l_pair : Cond.methodLink RX1 78 yX1_pair ∈ zwT := List.mem_cons_of_mem _ (List.mem_cons_of_mem _ (List.mem_append_left _ (List.mem_append_right _ (List.mem_append_right _ (List.mem_append_left _ (List.mem_of_getElem? (i := 11) rfl))))))
theorem zwT_i_pair : Cond.instanceMethod yX1_pair ∈ zwT := List.mem_cons_of_mem _ (List.mem_cons_of_mem _ (List.mem_append_left _ (List.mem_append_right _ (List.mem_append_right _ (List.mem_append_left _ (List.mem_of_getElem? (i := 12) rfl))))))
theorem zwT_v_pair : Cond.selects RX1 yX1_pair yX1_pair ∈ zwT := List.mem_cons_of_mem _ (List.mem_cons_of_mem _ (List.mem_append_left _ (List.mem_append_right _ (List.mem_append_right _ (List.mem_append_left _ (List.mem_of_getElem? (i := 13) rfl))))))
theorem zwT_c_push : Cond.code yX1_push cX1_push 4 (some .int) ∈ zwT := List.mem_cons_of_mem _ (List.mem_cons_of_mem _ (List.mem_append_left _ (List.mem_append_right _ (List.mem_append_left _ (List.mem_of_getElem? (i := 19) rfl)))))
theorem zwT_l_push : Cond.methodLink RX1 81 yX1_push ∈ zwT := List.mem_cons_of_mem _ (List.mem_cons_of_mem _ (List.mem_append_left _ (List.mem_append_right _ (List.mem_append_left _ (List.mem_of_getElem? (i := 16) rfl)))))
theorem zwT_i_push : Cond.instanceMethod yX1_push ∈ zwT := List.mem_cons_of_mem _ (List.mem_cons_of_mem _ (List.mem_append_left _ (List.mem_append_right _ (List.mem_append_left _ (List.mem_of_getElem? (i := 17) rfl)))))
theorem zwT_v_push : Cond.selects RX1 yX1_push yX1_push ∈ zwT := List.mem_cons_of_mem _ (List.mem_cons_of_mem _ (List.mem_append_left _ (List.mem_append_right _ (List.mem_append_left _ (List.mem_of_getElem? (i := 18) rfl)))))
theorem zwT_c_store : Cond.code yX1_store cX1_store 4 (some .int) ∈ zwT := List.mem_cons_of_mem _ (List.mem_cons_of_mem _ (List.mem_append_left _ (List.mem_append_right _ (List.mem_append_right _ (List.mem_append_left _ (List.mem_of_getElem? (i := 6) rfl))))))
theorem zwT_l_store : Cond.methodLink RX1 85 yX1_store ∈ zwT := List.mem_cons_of_mem _ (List.mem_cons_of_mem _ (List.mem_append_left _ (List.mem_append_right _ (List.mem_append_right _ (List.mem_append_left _ (List.mem_of_getElem? (i := 3) rfl))))))
theorem zwT_i_store : Cond.instanceMethod yX1_store ∈ zwT := List.mem_cons_of_mem _ (List.mem_cons_of_mem _ (List.mem_append_left _ (List.mem_append_right _ (List.mem_append_right _ (List.mem_append_left _ (List.mem_of_getElem? (i := 4) rfl))))))
theorem zwT_v_store : Cond.selects RX1 yX1_store yX1_store ∈ zwT := List.mem_cons_of_mem _ (List.mem_cons_of_mem _ (List.mem_append_left _ (List.mem_append_right _ (List.mem_append_right _ (List.mem_append_left _ (List.mem_of_getElem? (i := 5) rfl))))))
theorem zwT_c_signed : Cond.code yX1_signed cX1_signed 2 (some .int) ∈ zwT := List.mem_cons_of_mem _ (List.mem_cons_of_mem _ (List.mem_append_left _ (List.mem_append_right _ (List.mem_append_right _ (List.mem_append_left _ (List.mem_of_getElem? (i := 2) rfl))))))
theorem zwT_l_signed : Cond.methodLink RX1 88 yX1_signed ∈ zwT := List.mem_cons_of_mem _ (List.mem_cons_of_mem _ (List.mem_append_left _ (List.mem_append_right _ (List.mem_append_right _ (List.mem_append_left _ (List.mem_of_getElem? (i := 0) rfl))))))
theorem zwT_s_signed : Cond.static yX1_signed ∈ zwT := List.mem_cons_of_mem _ (List.mem_cons_of_mem _ (List.mem_append_left _ (List.mem_append_right _ (List.mem_append_right _ (List.mem_append_left _ (List.mem_of_getElem? (i := 1) rfl))))))
theorem zwT_c_jump : Cond.code yX1_jump cX1_jump 4 (some .int) ∈ zwT := List.mem_cons_of_mem _ (List.mem_cons_of_mem _ (List.mem_append_left _ (List.mem_append_right _ (List.mem_append_right _ (List.mem_append_left _ (List.mem_of_getElem? (i := 22) rfl))))))
theorem zwT_l_jump : Cond.methodLink RX1 92 yX1_jump ∈ zwT := List.mem_cons_of_mem _ (List.mem_cons_of_mem _ (List.mem_append_left _ (List.mem_append_right _ (List.mem_append_right _ (List.mem_append_left _ (List.mem_of_getElem? (i := 19) rfl))))))
theorem zwT_i_jump : Cond.instanceMethod yX1_jump ∈ zwT := List.mem_cons_of_mem _ (List.mem_cons_of_mem _ (List.mem_append_left _ (List.mem_append_right _ (List.mem_append_right _ (List.mem_append_left _ (List.mem_of_getElem? (i := 20) rfl))))))
theorem zwT_v_jump : Cond.selects RX1 yX1_jump yX1_jump ∈ zwT := List.mem_cons_of_mem _ (List.mem_cons_of_mem _ (List.mem_append_left _ (List.mem_append_right _ (List.mem_append_right _ (List.mem_append_left _ (List.mem_of_getElem? (i := 21) rfl))))))
theorem zwT_c_reckon : Cond.code yX1_reckon cX1_reckon 3 (some .int) ∈ zwT := List.mem_cons_of_mem _ (List.mem_cons_of_mem _ (List.mem_append_left _ (List.mem_append_right _ (List.mem_append_left _ (List.mem_of_getElem? (i := 4) rfl)))))
theorem zwT_l_reckon : Cond.methodLink RX1 96 yX1_reckon ∈ zwT := List.mem_cons_of_mem _ (List.mem_cons_of_mem _ (List.mem_append_left _ (List.mem_append_right _ (List.mem_append_left _ (List.mem_of_getElem? (i := 1) rfl)))))
theorem zwT_i_reckon : Cond.instanceMethod yX1_reckon ∈ zwT := List.mem_cons_of_mem _ (List.mem_cons_of_mem _ (List.mem_append_left _ (List.mem_append_right _ (List.mem_append_left _ (List.mem_of_getElem? (i := 2) rfl)))))
theorem zwT_v_reckon : Cond.selects RX1 yX1_reckon yX1_reckon ∈ zwT := List.mem_cons_of_mem _ (List.mem_cons_of_mem _ (List.mem_append_left _ (List.mem_append_right _ (List.mem_append_left _ (List.mem_of_getElem? (i := 3) rfl)))))
theorem zwT_c_swap : Cond.code yX1_swap cX1_swap 2 (some .int) ∈ zwT := List.mem_cons_of_mem _ (List.mem_cons_of_mem _ (List.mem_append_left _ (List.mem_append_right _ (List.mem_append_left _ (List.mem_of_getElem? (i := 23) rfl)))))
theorem zwT_l_swap : Cond.methodLink RX1 99 yX1_swap ∈ zwT := List.mem_cons_of_mem _ (List.mem_cons_of_mem _ (List.mem_append_left _ (List.mem_append_right _ (List.mem_append_left _ (List.mem_of_getElem? (i := 20) rfl)))))
theorem zwT_i_swap : Cond.instanceMethod yX1_swap ∈ zwT := List.mem_cons_of_mem _ (List.mem_cons_of_mem _ (List.mem_append_left _ (List.mem_append_right _ (List.mem_append_left _ (List.mem_of_getElem? (i := 21) rfl)))))
theorem zwT_v_swap : Cond.selects RX1 yX1_swap yX1_swap ∈ zwT := List.mem_cons_of_mem _ (List.mem_cons_of_mem _ (List.mem_append_left _ (List.mem_append_right _ (List.mem_append_left _ (List.mem_of_getElem? (i := 22) rfl)))))
theorem zwT_c_wide : Cond.code yX1_wide cX1_wide 3 (some .int) ∈ zwT := List.mem_cons_of_mem _ (List.mem_cons_of_mem _ (List.mem_append_left _ (List.mem_append_right _ (List.mem_append_right _ (List.mem_append_left _ (List.mem_of_getElem? (i := 10) rfl))))))
theorem zwT_l_wide : Cond.methodLink RX1 103 yX1_wide ∈ zwT := List.mem_cons_of_mem _ (List.mem_cons_of_mem _ (List.mem_append_left _ (List.mem_append_right _ (List.mem_append_right _ (List.mem_append_left _ (List.mem_of_getElem? (i := 7) rfl))))))
theorem zwT_i_wide : Cond.instanceMethod yX1_wide ∈ zwT := List.mem_cons_of_mem _ (List.mem_cons_of_mem _ (List.mem_append_left _ (List.mem_append_right _ (List.mem_append_right _ (List.mem_append_left _ (List.mem_of_getElem? (i := 8) rfl))))))
theorem zwT_v_wide : Cond.selects RX1 yX1_wide yX1_wide ∈ zwT := List.mem_cons_of_mem _ (List.mem_cons_of_mem _ (List.mem_append_left _ (List.mem_append_right _ (List.mem_append_right _ (List.mem_append_left _ (List.mem_of_getElem? (i := 9) rfl))))))
theorem zwT_c_increase : Cond.code yX1_increase cX1_increase 3 (some .int) ∈ zwT := List.mem_cons_of_mem _ (List.mem_cons_of_mem _ (List.mem_append_left _ (List.mem_append_right _ (List.mem_append_right _ (List.mem_append_left _ (List.mem_of_getElem? (i := 18) rfl))))))
theorem zwT_l_increase : Cond.methodLink RX1 106 yX1_increase ∈ zwT := List.mem_cons_of_mem _ (List.mem_cons_of_mem _ (List.mem_append_left _ (List.mem_append_right _ (List.mem_append_right _ (List.mem_append_left _ (List.mem_of_getElem? (i := 15) rfl))))))
theorem zwT_i_increase : Cond.instanceMethod yX1_increase ∈ zwT := List.mem_cons_of_mem _ (List.mem_cons_of_mem _ (List.mem_append_left _ (List.mem_append_right _ (List.mem_append_right _ (List.mem_append_left _ (List.mem_of_getElem? (i := 16) rfl))))))
theorem zwT_v_increase : Cond.selects RX1 yX1_increase yX1_increase ∈ zwT := List.mem_cons_of_mem _ (List.mem_cons_of_mem _ (List.mem_append_left _ (List.mem_append_right _ (List.mem_append_right _ (List.mem_append_left _ (List.mem_of_getElem? (i := 17) rfl))))))
theorem zwT_c_ifs : Cond.code yX1_ifs cX1_ifs 4 (some .int) ∈ zwT := List.mem_cons_of_mem _ (List.mem_cons_of_mem _ (List.mem_append_left _ (List.mem_append_right _ (List.mem_append_right _ (List.mem_append_right _ (List.mem_of_getElem? (i := 2) rfl))))))
theorem zwT_l_ifs : Cond.methodLink RX1 109 yX1_ifs ∈ zwT := List.mem_cons_of_mem _ (List.mem_cons_of_mem _ (List.mem_append_left _ (List.mem_append_right _ (List.mem_append_right _ (List.mem_append_left _ (List.mem_of_getElem? (i := 23) rfl))))))
theorem zwT_i_ifs : Cond.instanceMethod yX1_ifs ∈ zwT := List.mem_cons_of_mem _ (List.mem_cons_of_mem _ (List.mem_append_left _ (List.mem_append_right _ (List.mem_append_right _ (List.mem_append_right _ (List.mem_of_getElem? (i := 0) rfl))))))
theorem zwT_v_ifs : Cond.selects RX1 yX1_ifs yX1_ifs ∈ zwT := List.mem_cons_of_mem _ (List.mem_cons_of_mem _ (List.mem_append_left _ (List.mem_append_right _ (List.mem_append_right _ (List.mem_append_right _ (List.mem_of_getElem? (i := 1) rfl))))))
theorem zwT_c_call : Cond.code yX1_call cX1_call 6 (some .int) ∈ zwT := List.mem_cons_of_mem _ (List.mem_cons_of_mem _ (List.mem_append_left _ (List.mem_append_right _ (List.mem_append_right _ (List.mem_append_right _ (List.mem_of_getElem? (i := 6) rfl))))))
theorem zwT_l_call : Cond.methodLink RX1 112 yX1_call ∈ zwT := List.mem_cons_of_mem _ (List.mem_cons_of_mem _ (List.mem_append_left _ (List.mem_append_right _ (List.mem_append_right _ (List.mem_append_right _ (List.mem_of_getElem? (i := 3) rfl))))))
theorem zwT_i_call : Cond.instanceMethod yX1_call ∈ zwT := List.mem_cons_of_mem _ (List.mem_cons_of_mem _ (List.mem_append_left _ (List.mem_append_right _ (List.mem_append_right _ (List.mem_append_right _ (List.mem_of_getElem? (i := 4) rfl))))))
theorem zwT_v_call : Cond.selects RX1 yX1_call yX1_call ∈ zwT := List.mem_cons_of_mem _ (List.mem_cons_of_mem _ (List.mem_append_left _ (List.mem_append_right _ (List.mem_append_right _ (List.mem_append_right _ (List.mem_of_getElem? (i := 5) rfl))))))
theorem zwT_c_giveBack : Cond.code yX1_giveBack cX1_giveBack 2 (some .int) ∈ zwT := List.mem_cons_of_mem _ (List.mem_cons_of_mem _ (List.mem_append_left _ (List.mem_append_right _ (List.mem_append_right _ (List.mem_append_right _ (List.mem_of_getElem? (i := 10) rfl))))))
theorem zwT_l_giveBack : Cond.methodLink RX1 115 yX1_giveBack ∈ zwT := List.mem_cons_of_mem _ (List.mem_cons_of_mem _ (List.mem_append_left _ (List.mem_append_right _ (List.mem_append_right _ (List.mem_append_right _ (List.mem_of_getElem? (i := 7) rfl))))))
theorem zwT_i_giveBack : Cond.instanceMethod yX1_giveBack ∈ zwT := List.mem_cons_of_mem _ (List.mem_cons_of_mem _ (List.mem_append_left _ (List.mem_append_right _ (List.mem_append_right _ (List.mem_append_right _ (List.mem_of_getElem? (i := 8) rfl))))))
theorem zwT_v_giveBack : Cond.selects RX1 yX1_giveBack yX1_giveBack ∈ zwT := List.mem_cons_of_mem _ (List.mem_cons_of_mem _ (List.mem_append_left _ (List.mem_append_right _ (List.mem_append_right _ (List.mem_append_right _ (List.mem_of_getElem? (i := 9) rfl))))))
theorem zwT_c_perform : Cond.code yX1_perform cX1_perform 2 (some .int) ∈ zwT := List.mem_cons_of_mem _ (List.mem_cons_of_mem _ (List.mem_append_left _ (List.mem_append_left _ (List.mem_of_getElem? (i := 23) rfl))))
theorem zwT_l_perform : Cond.methodLink RX1 118 yX1_perform ∈ zwT := List.mem_cons_of_mem _ (List.mem_cons_of_mem _ (List.mem_append_left _ (List.mem_append_left _ (List.mem_of_getElem? (i := 20) rfl))))
theorem zwT_i_perform : Cond.instanceMethod yX1_perform ∈ zwT := List.mem_cons_of_mem _ (List.mem_cons_of_mem _ (List.mem_append_left _ (List.mem_append_left _ (List.mem_of_getElem? (i := 21) rfl))))
theorem zwT_v_perform : Cond.selects RX1 yX1_perform yX1_perform ∈ zwT := List.mem_cons_of_mem _ (List.mem_cons_of_mem _ (List.mem_append_left _ (List.mem_append_left _ (List.mem_of_getElem? (i := 22) rfl))))
end
section
def zx_isWord (a1 : Int32) : Int32 :=
  if a1 < 0 then (
    0)
  else (
    if 256 ≤ a1 then (
      0)
    else (
      1))
set_option maxHeartbeats 4000000 in
set_option maxRecDepth 100000 in
theorem zxM_isWord (l : Launch) (a1 : Int32) : Met l yX0_isWord (.code yX0_isWord cX0_isWord 1 (some .boolean) :: wsX0_step) (zrm 0) (fun a _ => a = ([.int a1] : List Value).toArray) (QcRead (zx_isWord a1)) 0 0 (fun _ => False) := by
  refine z_enterS (by decide) (Nat.le_of_ble_eq_true rfl) ?_
  intro p e s m below meth c ls hx hb hr hlk hl
  have hl : lv_has ls 1 [(0, .int a1)] := hl
  refine lv_iload_n hx hb dX0_isWord_0 rfl (lv_at hl 0 rfl) ?_
  refine lv_if_lt (tgt := 15) hx hb dX0_isWord_1 (by decide) (fun c1 => ?_) (fun c1 => ?_)
  · refine lv_iconst (v := 0) hx hb dX0_isWord_15 (by decide) ?_
    exact z_sret hx hb hr rfl hlk (by exact (if_pos c1).trans (rfl)) dX0_isWord_16
  · refine lv_iload_n hx hb dX0_isWord_4 rfl (lv_at hl 0 rfl) ?_
    refine lv_sipush (v := 256) hx hb dX0_isWord_5 (by decide) ?_
    refine lv_icmp_ge (tgt := 15) hx hb dX0_isWord_8 (by decide) (fun c2 => ?_) (fun c2 => ?_)
    · refine lv_iconst (v := 0) hx hb dX0_isWord_15 (by decide) ?_
      exact z_sret hx hb hr rfl hlk (by exact (if_neg c1).trans ((if_pos c2).trans (rfl))) dX0_isWord_16
    · refine lv_iconst (v := 1) hx hb dX0_isWord_11 (by decide) ?_
      refine lv_goto (tgt := 16) hx hb dX0_isWord_12 (by decide) ?_
      exact z_sret hx hb hr rfl hlk (by exact (if_neg c1).trans ((if_neg c2).trans (rfl))) dX0_isWord_16
section
variable {p : Program} {l : Launch} {e : Env} {R : Room} {s : State} {m : MethodId} {args : Array Value} {below : List Frame} {meth : Method} {c : Code} {H : Heap} {locs : List Loc} {Q : State → Prop} {cc : ByteArray} {pc nL : Nat} {ls : Array Slot} {rest : List Value} {k : Zxk} {u : Zxs} {H0 : Heap}
set_option maxHeartbeats 4000000 in
set_option maxRecDepth 100000 in
theorem zxK_isWord {a1 : Int32} (C : ZxC p s m args c cc nL k) (hsz : ls.size = nL) (hR : 0 + 1 ≤ R.frames ∧ 8 + (1 + 11) + 40 * 0 ≤ R.locals) (hw : (rest.map fun v => v.category).sum ≤ 8) (hdg : decode cc pc = .ok (.invokestatic 42, 3)) (kk : W p l e R s m args below meth c H locs 0 0 Q (F0 m (pc + 3) ls (.int (zx_isWord a1) :: rest))) : W p l e R s m args below meth c H locs 0 0 Q (F0 m pc ls (.int a1 :: rest)) :=
  zx_callS (y := yX0_isWord) (n := 1) C (zxM_isWord l a1 ) wsX0_step_c_isWord wsX0_step_l_isWord wsX0_step_s_isWord rfl (by decide +kernel) hsz hR hw rfl hdg kk
end
def zx_areBytes (a1 a2 : Int32) : Int32 :=
  if a1 < 0 then (
    0)
  else (
    if (512 - a2) < a1 then (
      0)
    else (
      1))
set_option maxHeartbeats 4000000 in
set_option maxRecDepth 100000 in
theorem zxM_areBytes (l : Launch) (a1 a2 : Int32) : Met l yX0_areBytes (.code yX0_areBytes cX0_areBytes 2 (some .boolean) :: wsX0_step) (zrm 0) (fun a _ => a = ([.int a1, .int a2] : List Value).toArray) (QcRead (zx_areBytes a1 a2)) 0 0 (fun _ => False) := by
  refine z_enterS (by decide) (Nat.le_of_ble_eq_true rfl) ?_
  intro p e s m below meth c ls hx hb hr hlk hl
  have hl : lv_has ls 2 [(0, .int a1), (1, .int a2)] := hl
  refine lv_iload_n hx hb dX0_areBytes_0 rfl (lv_at hl 0 rfl) ?_
  refine lv_if_lt (tgt := 17) hx hb dX0_areBytes_1 (by decide) (fun c1 => ?_) (fun c1 => ?_)
  · refine lv_iconst (v := 0) hx hb dX0_areBytes_17 (by decide) ?_
    exact z_sret hx hb hr rfl hlk (by exact (if_pos c1).trans (rfl)) dX0_areBytes_18
  · refine lv_iload_n hx hb dX0_areBytes_4 rfl (lv_at hl 0 rfl) ?_
    refine lv_sipush (v := 512) hx hb dX0_areBytes_5 (by decide) ?_
    refine lv_iload_n hx hb dX0_areBytes_8 rfl (lv_at hl 1 rfl) ?_
    refine lv_isub hx hb dX0_areBytes_9 ?_
    refine lv_icmp_gt (tgt := 17) hx hb dX0_areBytes_10 (by decide) (fun c2 => ?_) (fun c2 => ?_)
    · refine lv_iconst (v := 0) hx hb dX0_areBytes_17 (by decide) ?_
      exact z_sret hx hb hr rfl hlk (by exact (if_neg c1).trans ((if_pos c2).trans (rfl))) dX0_areBytes_18
    · refine lv_iconst (v := 1) hx hb dX0_areBytes_13 (by decide) ?_
      refine lv_goto (tgt := 18) hx hb dX0_areBytes_14 (by decide) ?_
      exact z_sret hx hb hr rfl hlk (by exact (if_neg c1).trans ((if_neg c2).trans (rfl))) dX0_areBytes_18
section
variable {p : Program} {l : Launch} {e : Env} {R : Room} {s : State} {m : MethodId} {args : Array Value} {below : List Frame} {meth : Method} {c : Code} {H : Heap} {locs : List Loc} {Q : State → Prop} {cc : ByteArray} {pc nL : Nat} {ls : Array Slot} {rest : List Value} {k : Zxk} {u : Zxs} {H0 : Heap}
set_option maxHeartbeats 4000000 in
set_option maxRecDepth 100000 in
theorem zxK_areBytes {a1 a2 : Int32} (C : ZxC p s m args c cc nL k) (hsz : ls.size = nL) (hR : 0 + 1 ≤ R.frames ∧ 8 + (2 + 11) + 40 * 0 ≤ R.locals) (hw : (rest.map fun v => v.category).sum ≤ 8) (hdg : decode cc pc = .ok (.invokestatic 53, 3)) (kk : W p l e R s m args below meth c H locs 0 0 Q (F0 m (pc + 3) ls (.int (zx_areBytes a1 a2) :: rest))) : W p l e R s m args below meth c H locs 0 0 Q (F0 m pc ls (.int a2 :: .int a1 :: rest)) :=
  zx_callS (y := yX0_areBytes) (n := 2) C (zxM_areBytes l a1 a2 ) wsX0_step_c_areBytes wsX0_step_l_areBytes wsX0_step_s_areBytes rfl (by decide +kernel) hsz hR hw rfl hdg kk
end
def zx_combined (a1 a2 a3 : Int32) : Int32 :=
  if a1 = 96 then (
    a2 + a3)
  else (
    if a1 = 100 then (
      a2 - a3)
    else (
      if a1 = 126 then (
        a2 &&& a3)
      else (
        a2 ||| a3)))
set_option maxHeartbeats 4000000 in
set_option maxRecDepth 100000 in
theorem zxM_combined (l : Launch) (a1 a2 a3 : Int32) : Met l yX0_combined (.code yX0_combined cX0_combined 3 (some .int) :: wsX0_step) (zrm 0) (fun a _ => a = ([.int a1, .int a2, .int a3] : List Value).toArray) (QcRead (zx_combined a1 a2 a3)) 0 0 (fun _ => False) := by
  refine z_enterS (by decide) (Nat.le_of_ble_eq_true rfl) ?_
  intro p e s m below meth c ls hx hb hr hlk hl
  have hl : lv_has ls 3 [(0, .int a1), (1, .int a2), (2, .int a3)] := hl
  refine lv_iload_n hx hb dX0_combined_0 rfl (lv_at hl 0 rfl) ?_
  by_cases c1 : a1 = 96
  · refine lv_lookup (off := 35) (tgt := 36) hx hb dX0_combined_1 (by decide) (z_sw c1 (by decide)) (by decide) ?_
    refine lv_iload_n hx hb dX0_combined_36 rfl (lv_at hl 1 rfl) ?_
    refine lv_iload_n hx hb dX0_combined_37 rfl (lv_at hl 2 rfl) ?_
    refine lv_iadd hx hb dX0_combined_38 ?_
    exact z_sret hx hb hr rfl hlk (by exact (if_pos c1).trans (rfl)) dX0_combined_39
  · skip
    by_cases c2 : a1 = 100
    · refine lv_lookup (off := 39) (tgt := 40) hx hb dX0_combined_1 (by decide) (z_sw c2 (by decide)) (by decide) ?_
      refine lv_iload_n hx hb dX0_combined_40 rfl (lv_at hl 1 rfl) ?_
      refine lv_iload_n hx hb dX0_combined_41 rfl (lv_at hl 2 rfl) ?_
      refine lv_isub hx hb dX0_combined_42 ?_
      exact z_sret hx hb hr rfl hlk (by exact (if_neg c1).trans ((if_pos c2).trans (rfl))) dX0_combined_43
    · skip
      by_cases c3 : a1 = 126
      · refine lv_lookup (off := 43) (tgt := 44) hx hb dX0_combined_1 (by decide) (z_sw c3 (by decide)) (by decide) ?_
        refine lv_iload_n hx hb dX0_combined_44 rfl (lv_at hl 1 rfl) ?_
        refine lv_iload_n hx hb dX0_combined_45 rfl (lv_at hl 2 rfl) ?_
        refine lv_iand hx hb dX0_combined_46 ?_
        exact z_sret hx hb hr rfl hlk (by exact (if_neg c1).trans ((if_neg c2).trans ((if_pos c3).trans (rfl)))) dX0_combined_47
      · skip
        refine lv_lookup (off := 47) (tgt := 48) hx hb dX0_combined_1 (by decide) ((lv_osw c1 (by decide)).trans ((lv_osw c2 (by decide)).trans ((lv_osw c3 (by decide)).trans (rfl)))) (by decide) ?_
        refine lv_iload_n hx hb dX0_combined_48 rfl (lv_at hl 1 rfl) ?_
        refine lv_iload_n hx hb dX0_combined_49 rfl (lv_at hl 2 rfl) ?_
        refine lv_ior hx hb dX0_combined_50 ?_
        exact z_sret hx hb hr rfl hlk (by exact (if_neg c1).trans ((if_neg c2).trans ((if_neg c3).trans (rfl)))) dX0_combined_51
section
variable {p : Program} {l : Launch} {e : Env} {R : Room} {s : State} {m : MethodId} {args : Array Value} {below : List Frame} {meth : Method} {c : Code} {H : Heap} {locs : List Loc} {Q : State → Prop} {cc : ByteArray} {pc nL : Nat} {ls : Array Slot} {rest : List Value} {k : Zxk} {u : Zxs} {H0 : Heap}
set_option maxHeartbeats 4000000 in
set_option maxRecDepth 100000 in
theorem zxK_combined {a1 a2 a3 : Int32} (C : ZxC p s m args c cc nL k) (hsz : ls.size = nL) (hR : 0 + 1 ≤ R.frames ∧ 8 + (3 + 11) + 40 * 0 ≤ R.locals) (hw : (rest.map fun v => v.category).sum ≤ 8) (hdg : decode cc pc = .ok (.invokestatic 139, 3)) (kk : W p l e R s m args below meth c H locs 0 0 Q (F0 m (pc + 3) ls (.int (zx_combined a1 a2 a3) :: rest))) : W p l e R s m args below meth c H locs 0 0 Q (F0 m pc ls (.int a3 :: .int a2 :: .int a1 :: rest)) :=
  zx_callS (y := yX0_combined) (n := 3) C (zxM_combined l a1 a2 a3 ) wsX0_step_c_combined wsX0_step_l_combined wsX0_step_s_combined rfl (by decide +kernel) hsz hR hw rfl hdg kk
end

theorem zx_in {x : Int32} (h : ¬ zx_isWord x = 0) : vp_in x 256 := by
  unfold zx_isWord at h
  by_cases a : x < 0
  · rw [if_pos a] at h; exact absurd rfl h
  rw [if_neg a] at h
  by_cases b : 256 ≤ x
  · rw [if_pos b] at h; exact absurd rfl h
  obtain ⟨q, hq, rfl⟩ := nI_of a
  exact vp_in_nI (Nat.lt_of_not_le (fun g => b (nI_le g hq))) (by decide)
theorem zx_bg {p : Int32} {j nn : Nat} (hnn : nn ≤ 4) (hj : j < nn) (h : ¬ zx_areBytes p (nI nn) = 0) : vp_in (p + nI j) 512 := by
  unfold zx_areBytes at h
  by_cases a : p < 0
  · rw [if_pos a] at h; exact absurd rfl h
  rw [if_neg a] at h
  obtain ⟨q, hq, rfl⟩ := nI_of a
  by_cases b : (512 : Int32) - nI nn < nI q
  · rw [if_pos b] at h; exact absurd rfl h
  have e : (512 : Int32) - nI nn = nI (512 - nn) := pk_sub (a := 512) (by omega)
  rw [e] at b
  have hb : q ≤ 512 - nn := Nat.le_of_not_lt (fun g => b (nI_lt g hq))
  rw [nI_add]
  exact vp_in_nI (by omega) (by decide)
theorem zx_b10 {p : Int32} (h : ¬ zx_areBytes p 1 = 0) : vp_in p 512 := by
  have g := zx_bg (j := 0) (nn := 1) (by decide) (by decide) h
  rwa [nI_0, Int32.add_zero] at g
theorem zx_b21 {p : Int32} (h : ¬ zx_areBytes p 2 = 0) : vp_in (p + 1) 512 := zx_bg (j := 1) (nn := 2) (by decide) (by decide) h
theorem zx_b31 {p : Int32} (h : ¬ zx_areBytes p 3 = 0) : vp_in (p + 1) 512 := zx_bg (j := 1) (nn := 3) (by decide) (by decide) h
theorem zx_b32 {p : Int32} (h : ¬ zx_areBytes p 3 = 0) : vp_in (p + 2) 512 := zx_bg (j := 2) (nn := 3) (by decide) (by decide) h
theorem zx_b33 {p : Int32} (h : ¬ zx_areBytes p 3 = 0) : vp_in (p + 1 + 1) 512 := by
  rw [Int32.add_assoc]; exact zx_b32 h
theorem zx_b40 {p : Int32} (h : ¬ zx_areBytes p 4 = 0) : vp_in p 512 := by
  have g := zx_bg (j := 0) (nn := 4) (by decide) (by decide) h
  rwa [nI_0, Int32.add_zero] at g
theorem zx_b41 {p : Int32} (h : ¬ zx_areBytes p 4 = 0) : vp_in (p + 1) 512 := zx_bg (j := 1) (nn := 4) (by decide) (by decide) h
theorem zx_b42 {p : Int32} (h : ¬ zx_areBytes p 4 = 0) : vp_in (p + 2) 512 := zx_bg (j := 2) (nn := 4) (by decide) (by decide) h
theorem zx_b43 {p : Int32} (h : ¬ zx_areBytes p 4 = 0) : vp_in (p + 2 + 1) 512 := by
  rw [Int32.add_assoc]; exact zx_bg (j := 3) (nn := 4) (by decide) (by decide) h
def zx_unsignedByte (u : Zxs) (a1 : Int32) : Int32 :=
  (zxg_bytes u a1.toNatClampNeg) &&& 255
set_option maxHeartbeats 4000000 in
set_option maxRecDepth 100000 in
theorem zxM_unsignedByte (l : Launch) (k : Zxk) (Dk : ZxD k) (u : Zxs) (a1 : Int32) (h1 : vp_in a1 512) : Met l yX0_unsignedByte (.code yX0_unsignedByte cX0_unsignedByte 2 (some .int) :: wsX0_step) (zrm 0) (ZxB k [.ref (zxa_this k), .int a1] u) (QcRead (zx_unsignedByte u a1)) 0 0 (fun _ => False) := by
  refine zxE_inR (by decide) rfl (Nat.le_of_ble_eq_true rfl) Dk ?_
  intro p e s m below meth c ls C hr hlk hP hl
  have hx := C.1.1
  have hb := C.1.2.1
  have hl : lv_has ls 2 [(0, .ref (zxa_this k)), (1, .int a1)] := hl
  refine lv_aload_n hx hb dX0_unsignedByte_0 rfl (lv_at hl 0 rfl) ?_
  refine zxG_bytes C hP dX0_unsignedByte_1 ?_
  refine lv_iload_n hx hb dX0_unsignedByte_4 rfl (lv_at hl 1 rfl) ?_
  refine zxL_bytes C hP (by first | with_reducible assumption | with_reducible exact zx_in (by with_reducible assumption) | with_reducible exact zx_b10 (by with_reducible assumption) | with_reducible exact zx_b21 (by with_reducible assumption) | with_reducible exact zx_b31 (by with_reducible assumption) | with_reducible exact zx_b32 (by with_reducible assumption) | with_reducible exact zx_b42 (by with_reducible assumption) | with_reducible exact zx_b43 (by with_reducible assumption) | with_reducible exact zx_b33 (by with_reducible assumption) | with_reducible exact zx_b40 (by with_reducible assumption) | with_reducible exact zx_b41 (by with_reducible assumption)) dX0_unsignedByte_5 ?_
  refine lv_sipush (v := 255) hx hb dX0_unsignedByte_6 (by decide) ?_
  refine lv_iand hx hb dX0_unsignedByte_9 ?_
  exact zx_rret C hr rfl hlk (by exact rfl) dX0_unsignedByte_10
section
variable {p : Program} {l : Launch} {e : Env} {R : Room} {s : State} {m : MethodId} {args : Array Value} {below : List Frame} {meth : Method} {c : Code} {H : Heap} {locs : List Loc} {Q : State → Prop} {cc : ByteArray} {pc nL : Nat} {ls : Array Slot} {rest : List Value} {k : Zxk} {u : Zxs} {H0 : Heap}
set_option maxHeartbeats 4000000 in
set_option maxRecDepth 100000 in
theorem zxK_unsignedByte {a1 : Int32} (C : ZxC p s m args c cc nL k) (hP : ZxP k u H) (hsz : ls.size = nL) (hR : 0 + 1 ≤ R.frames ∧ 8 + (2 + 11) + 40 * 0 ≤ R.locals) (hw : (rest.map fun v => v.category).sum ≤ 8) (h1 : vp_in a1 512) (hdg : decode cc pc = .ok (.invokevirtual 77, 3)) (kk : W p l e R s m args below meth c H locs 0 0 Q (F0 m (pc + 3) ls (.int (zx_unsignedByte u a1) :: rest))) : W p l e R s m args below meth c H locs 0 0 Q (F0 m pc ls (.int a1 :: .ref (zxa_this k) :: rest)) :=
  zx_callR (y := yX0_unsignedByte) (n := 1) (As := [.int a1]) C (zxM_unsignedByte l k C.2.2 u a1 h1) wsX0_step_c_unsignedByte wsX0_step_l_unsignedByte wsX0_step_i_unsignedByte wsX0_step_v_unsignedByte rfl (by decide +kernel) hP hsz hR hw rfl hdg kk
end
def zx_unsignedPair (u : Zxs) (a1 : Int32) : Int32 :=
  ((zx_unsignedByte u a1) <<< (8 &&& 31)) ||| (zx_unsignedByte u (a1 + 1))
set_option maxHeartbeats 4000000 in
set_option maxRecDepth 100000 in
theorem zxM_unsignedPair (l : Launch) (k : Zxk) (Dk : ZxD k) (u : Zxs) (a1 : Int32) (h1 : vp_in a1 512) (h2 : vp_in (a1 + 1) 512) : Met l yX0_unsignedPair (.code yX0_unsignedPair cX0_unsignedPair 2 (some .int) :: wsX0_step) (zrm 1) (ZxB k [.ref (zxa_this k), .int a1] u) (QcRead (zx_unsignedPair u a1)) 0 0 (fun _ => False) := by
  refine zxE_inR (by decide) rfl (Nat.le_of_ble_eq_true rfl) Dk ?_
  intro p e s m below meth c ls C hr hlk hP hl
  have hx := C.1.1
  have hb := C.1.2.1
  have hl : lv_has ls 2 [(0, .ref (zxa_this k)), (1, .int a1)] := hl
  refine lv_aload_n hx hb dX0_unsignedPair_0 rfl (lv_at hl 0 rfl) ?_
  refine lv_iload_n hx hb dX0_unsignedPair_1 rfl (lv_at hl 1 rfl) ?_
  refine zxK_unsignedByte C hP hl.1 (by decide) (Nat.le_of_ble_eq_true rfl) (by first | with_reducible assumption | with_reducible exact zx_in (by with_reducible assumption) | with_reducible exact zx_b10 (by with_reducible assumption) | with_reducible exact zx_b21 (by with_reducible assumption) | with_reducible exact zx_b31 (by with_reducible assumption) | with_reducible exact zx_b32 (by with_reducible assumption) | with_reducible exact zx_b42 (by with_reducible assumption) | with_reducible exact zx_b43 (by with_reducible assumption) | with_reducible exact zx_b33 (by with_reducible assumption) | with_reducible exact zx_b40 (by with_reducible assumption) | with_reducible exact zx_b41 (by with_reducible assumption)) dX0_unsignedPair_2 ?_
  refine lv_bipush (v := 8) hx hb dX0_unsignedPair_5 (by decide) ?_
  refine lv_ishl hx hb dX0_unsignedPair_7 ?_
  refine lv_aload_n hx hb dX0_unsignedPair_8 rfl (lv_at hl 0 rfl) ?_
  refine lv_iload_n hx hb dX0_unsignedPair_9 rfl (lv_at hl 1 rfl) ?_
  refine lv_iconst (v := 1) hx hb dX0_unsignedPair_10 (by decide) ?_
  refine lv_iadd hx hb dX0_unsignedPair_11 ?_
  refine zxK_unsignedByte C hP hl.1 (by decide) (Nat.le_of_ble_eq_true rfl) (by first | with_reducible assumption | with_reducible exact zx_in (by with_reducible assumption) | with_reducible exact zx_b10 (by with_reducible assumption) | with_reducible exact zx_b21 (by with_reducible assumption) | with_reducible exact zx_b31 (by with_reducible assumption) | with_reducible exact zx_b32 (by with_reducible assumption) | with_reducible exact zx_b42 (by with_reducible assumption) | with_reducible exact zx_b43 (by with_reducible assumption) | with_reducible exact zx_b33 (by with_reducible assumption) | with_reducible exact zx_b40 (by with_reducible assumption) | with_reducible exact zx_b41 (by with_reducible assumption)) dX0_unsignedPair_12 ?_
  refine lv_ior hx hb dX0_unsignedPair_15 ?_
  exact zx_rret C hr rfl hlk (by exact rfl) dX0_unsignedPair_16
section
variable {p : Program} {l : Launch} {e : Env} {R : Room} {s : State} {m : MethodId} {args : Array Value} {below : List Frame} {meth : Method} {c : Code} {H : Heap} {locs : List Loc} {Q : State → Prop} {cc : ByteArray} {pc nL : Nat} {ls : Array Slot} {rest : List Value} {k : Zxk} {u : Zxs} {H0 : Heap}
set_option maxHeartbeats 4000000 in
set_option maxRecDepth 100000 in
theorem zxK_unsignedPair {a1 : Int32} (C : ZxC p s m args c cc nL k) (hP : ZxP k u H) (hsz : ls.size = nL) (hR : 1 + 1 ≤ R.frames ∧ 8 + (2 + 11) + 40 * 1 ≤ R.locals) (hw : (rest.map fun v => v.category).sum ≤ 8) (h1 : vp_in a1 512) (h2 : vp_in (a1 + 1) 512) (hdg : decode cc pc = .ok (.invokevirtual 149, 3)) (kk : W p l e R s m args below meth c H locs 0 0 Q (F0 m (pc + 3) ls (.int (zx_unsignedPair u a1) :: rest))) : W p l e R s m args below meth c H locs 0 0 Q (F0 m pc ls (.int a1 :: .ref (zxa_this k) :: rest)) :=
  zx_callR (y := yX0_unsignedPair) (n := 1) (As := [.int a1]) C (zxM_unsignedPair l k C.2.2 u a1 h1 h2) wsX0_step_c_unsignedPair wsX0_step_l_unsignedPair wsX0_step_i_unsignedPair wsX0_step_v_unsignedPair rfl (by decide +kernel) hP hsz hR hw rfl hdg kk
end
def zx_signedPair (u : Zxs) (a1 : Int32) : Int32 :=
  ((zxg_bytes u a1.toNatClampNeg) <<< (8 &&& 31)) ||| (zx_unsignedByte u (a1 + 1))
set_option maxHeartbeats 4000000 in
set_option maxRecDepth 100000 in
theorem zxM_signedPair (l : Launch) (k : Zxk) (Dk : ZxD k) (u : Zxs) (a1 : Int32) (h1 : vp_in a1 512) (h2 : vp_in (a1 + 1) 512) : Met l yX0_signedPair (.code yX0_signedPair cX0_signedPair 2 (some .int) :: wsX0_step) (zrm 1) (ZxB k [.ref (zxa_this k), .int a1] u) (QcRead (zx_signedPair u a1)) 0 0 (fun _ => False) := by
  refine zxE_inR (by decide) rfl (Nat.le_of_ble_eq_true rfl) Dk ?_
  intro p e s m below meth c ls C hr hlk hP hl
  have hx := C.1.1
  have hb := C.1.2.1
  have hl : lv_has ls 2 [(0, .ref (zxa_this k)), (1, .int a1)] := hl
  refine lv_aload_n hx hb dX0_signedPair_0 rfl (lv_at hl 0 rfl) ?_
  refine zxG_bytes C hP dX0_signedPair_1 ?_
  refine lv_iload_n hx hb dX0_signedPair_4 rfl (lv_at hl 1 rfl) ?_
  refine zxL_bytes C hP (by first | with_reducible assumption | with_reducible exact zx_in (by with_reducible assumption) | with_reducible exact zx_b10 (by with_reducible assumption) | with_reducible exact zx_b21 (by with_reducible assumption) | with_reducible exact zx_b31 (by with_reducible assumption) | with_reducible exact zx_b32 (by with_reducible assumption) | with_reducible exact zx_b42 (by with_reducible assumption) | with_reducible exact zx_b43 (by with_reducible assumption) | with_reducible exact zx_b33 (by with_reducible assumption) | with_reducible exact zx_b40 (by with_reducible assumption) | with_reducible exact zx_b41 (by with_reducible assumption)) dX0_signedPair_5 ?_
  refine lv_bipush (v := 8) hx hb dX0_signedPair_6 (by decide) ?_
  refine lv_ishl hx hb dX0_signedPair_8 ?_
  refine lv_aload_n hx hb dX0_signedPair_9 rfl (lv_at hl 0 rfl) ?_
  refine lv_iload_n hx hb dX0_signedPair_10 rfl (lv_at hl 1 rfl) ?_
  refine lv_iconst (v := 1) hx hb dX0_signedPair_11 (by decide) ?_
  refine lv_iadd hx hb dX0_signedPair_12 ?_
  refine zxK_unsignedByte C hP hl.1 (by decide) (Nat.le_of_ble_eq_true rfl) (by first | with_reducible assumption | with_reducible exact zx_in (by with_reducible assumption) | with_reducible exact zx_b10 (by with_reducible assumption) | with_reducible exact zx_b21 (by with_reducible assumption) | with_reducible exact zx_b31 (by with_reducible assumption) | with_reducible exact zx_b32 (by with_reducible assumption) | with_reducible exact zx_b42 (by with_reducible assumption) | with_reducible exact zx_b43 (by with_reducible assumption) | with_reducible exact zx_b33 (by with_reducible assumption) | with_reducible exact zx_b40 (by with_reducible assumption) | with_reducible exact zx_b41 (by with_reducible assumption)) dX0_signedPair_13 ?_
  refine lv_ior hx hb dX0_signedPair_16 ?_
  exact zx_rret C hr rfl hlk (by exact rfl) dX0_signedPair_17
section
variable {p : Program} {l : Launch} {e : Env} {R : Room} {s : State} {m : MethodId} {args : Array Value} {below : List Frame} {meth : Method} {c : Code} {H : Heap} {locs : List Loc} {Q : State → Prop} {cc : ByteArray} {pc nL : Nat} {ls : Array Slot} {rest : List Value} {k : Zxk} {u : Zxs} {H0 : Heap}
set_option maxHeartbeats 4000000 in
set_option maxRecDepth 100000 in
theorem zxK_signedPair {a1 : Int32} (C : ZxC p s m args c cc nL k) (hP : ZxP k u H) (hsz : ls.size = nL) (hR : 1 + 1 ≤ R.frames ∧ 8 + (2 + 11) + 40 * 1 ≤ R.locals) (hw : (rest.map fun v => v.category).sum ≤ 8) (h1 : vp_in a1 512) (h2 : vp_in (a1 + 1) 512) (hdg : decode cc pc = .ok (.invokevirtual 152, 3)) (kk : W p l e R s m args below meth c H locs 0 0 Q (F0 m (pc + 3) ls (.int (zx_signedPair u a1) :: rest))) : W p l e R s m args below meth c H locs 0 0 Q (F0 m pc ls (.int a1 :: .ref (zxa_this k) :: rest)) :=
  zx_callR (y := yX0_signedPair) (n := 1) (As := [.int a1]) C (zxM_signedPair l k C.2.2 u a1 h1 h2) wsX0_step_c_signedPair wsX0_step_l_signedPair wsX0_step_i_signedPair wsX0_step_v_signedPair rfl (by decide +kernel) hP hsz hR hw rfl hdg kk
end
def zx_finish (u : Zxs) (a1 a2 : Int32) : Zxs :=
  let u1 := zxs_pc u a1
  let u2 := zxs_cycles u1 ((zxg_cycles u1) + a2)
  let u3 := zxs_instructions u2 ((zxg_instructions u2) + 1)
  u3
set_option maxHeartbeats 4000000 in
set_option maxRecDepth 100000 in
theorem zxM_finish (l : Launch) (k : Zxk) (Dk : ZxD k) (u : Zxs) (a1 a2 : Int32) : Met l yX0_finish (.code yX0_finish cX0_finish 3 none :: wsX0_step) (zrm 0) (ZxB k [.ref (zxa_this k), .int a1, .int a2] u) (ZxQ k none (zx_finish u a1 a2)) 0 0 (ZxA k) := by
  refine zxE_in (by decide) rfl (Nat.le_of_ble_eq_true rfl) Dk ?_
  intro p e s m below meth c ls C hr hlk hP hl
  have hx := C.1.1
  have hb := C.1.2.1
  have hl : lv_has ls 3 [(0, .ref (zxa_this k)), (1, .int a1), (2, .int a2)] := hl
  have hS : va_S (ZxA k) s.heap s.heap [] := va_S.rf
  refine lv_aload_n hx hb dX0_finish_0 rfl (lv_at hl 0 rfl) ?_
  refine lv_iload_n hx hb dX0_finish_1 rfl (lv_at hl 1 rfl) ?_
  refine zxP_pc C hP hS dX0_finish_2 (fun u1 H locs hu1 hP hS => ?_)
  refine lv_aload_n hx hb dX0_finish_5 rfl (lv_at hl 0 rfl) ?_
  refine lv_dup hx hb dX0_finish_6 rfl ?_
  refine zxG_cycles C hP dX0_finish_7 ?_
  refine lv_iload_n hx hb dX0_finish_10 rfl (lv_at hl 2 rfl) ?_
  refine lv_iadd hx hb dX0_finish_11 ?_
  refine zxP_cycles C hP hS dX0_finish_12 (fun u2 H locs hu2 hP hS => ?_)
  refine lv_aload_n hx hb dX0_finish_15 rfl (lv_at hl 0 rfl) ?_
  refine lv_dup hx hb dX0_finish_16 rfl ?_
  refine zxG_instructions C hP dX0_finish_17 ?_
  refine lv_iconst (v := 1) hx hb dX0_finish_20 (by decide) ?_
  refine lv_iadd hx hb dX0_finish_21 ?_
  refine zxP_instructions C hP hS dX0_finish_22 (fun u3 H locs hu3 hP hS => ?_)
  exact zx_vret C hr hlk hP hS (by subst hu1 hu2 hu3; exact rfl) dX0_finish_25
section
variable {p : Program} {l : Launch} {e : Env} {R : Room} {s : State} {m : MethodId} {args : Array Value} {below : List Frame} {meth : Method} {c : Code} {H : Heap} {locs : List Loc} {Q : State → Prop} {cc : ByteArray} {pc nL : Nat} {ls : Array Slot} {rest : List Value} {k : Zxk} {u : Zxs} {H0 : Heap}
set_option maxHeartbeats 4000000 in
set_option maxRecDepth 100000 in
theorem zxK_finish {a1 a2 : Int32} (C : ZxC p s m args c cc nL k) (hP : ZxP k u H) (hS : va_S (ZxA k) H0 H locs) (hsz : ls.size = nL) (hR : 0 + 1 ≤ R.frames ∧ 8 + (3 + 11) + 40 * 0 ≤ R.locals) (hw : (rest.map fun v => v.category).sum ≤ 8) (hdg : decode cc pc = .ok (.invokevirtual 81, 3)) (kk : ∀ (u1 : Zxs) (H1 : Heap) (locs1 : List Loc), u1 = zx_finish u a1 a2 → ZxP k u1 H1 → va_S (ZxA k) H0 H1 locs1 → W p l e R s m args below meth c H1 locs1 0 0 Q (F0 m (pc + 3) ls (rest))) : W p l e R s m args below meth c H locs 0 0 Q (F0 m pc ls (.int a2 :: .int a1 :: .ref (zxa_this k) :: rest)) :=
  zx_callV (y := yX0_finish) (n := 2) (As := [.int a1, .int a2]) C (zxM_finish l k C.2.2 u a1 a2 ) wsX0_step_c_finish wsX0_step_l_finish wsX0_step_i_finish wsX0_step_v_finish rfl (by decide +kernel) hP hS hsz hR hw rfl hdg (fun H1 locs1 hP1 hS1 => kk _ H1 locs1 rfl hP1 hS1)
end
def zx_fault (u : Zxs) : Zxs :=
  let u1 := zxs_state u 3
  u1
set_option maxHeartbeats 4000000 in
set_option maxRecDepth 100000 in
theorem zxM_fault (l : Launch) (k : Zxk) (Dk : ZxD k) (u : Zxs) : Met l yX0_fault (.code yX0_fault cX0_fault 1 none :: wsX0_step) (zrm 0) (ZxB k [.ref (zxa_this k)] u) (ZxQ k none (zx_fault u )) 0 0 (ZxA k) := by
  refine zxE_in (by decide) rfl (Nat.le_of_ble_eq_true rfl) Dk ?_
  intro p e s m below meth c ls C hr hlk hP hl
  have hx := C.1.1
  have hb := C.1.2.1
  have hl : lv_has ls 1 [(0, .ref (zxa_this k))] := hl
  have hS : va_S (ZxA k) s.heap s.heap [] := va_S.rf
  refine lv_aload_n hx hb dX0_fault_0 rfl (lv_at hl 0 rfl) ?_
  refine lv_iconst (v := 3) hx hb dX0_fault_1 (by decide) ?_
  refine zxP_state C hP hS dX0_fault_2 (fun u1 H locs hu1 hP hS => ?_)
  exact zx_vret C hr hlk hP hS (by subst hu1; exact rfl) dX0_fault_5
section
variable {p : Program} {l : Launch} {e : Env} {R : Room} {s : State} {m : MethodId} {args : Array Value} {below : List Frame} {meth : Method} {c : Code} {H : Heap} {locs : List Loc} {Q : State → Prop} {cc : ByteArray} {pc nL : Nat} {ls : Array Slot} {rest : List Value} {k : Zxk} {u : Zxs} {H0 : Heap}
set_option maxHeartbeats 4000000 in
set_option maxRecDepth 100000 in
theorem zxK_fault (C : ZxC p s m args c cc nL k) (hP : ZxP k u H) (hS : va_S (ZxA k) H0 H locs) (hsz : ls.size = nL) (hR : 0 + 1 ≤ R.frames ∧ 8 + (1 + 11) + 40 * 0 ≤ R.locals) (hw : (rest.map fun v => v.category).sum ≤ 8) (hdg : decode cc pc = .ok (.invokevirtual 74, 3)) (kk : ∀ (u1 : Zxs) (H1 : Heap) (locs1 : List Loc), u1 = zx_fault u  → ZxP k u1 H1 → va_S (ZxA k) H0 H1 locs1 → W p l e R s m args below meth c H1 locs1 0 0 Q (F0 m (pc + 3) ls (rest))) : W p l e R s m args below meth c H locs 0 0 Q (F0 m pc ls (.ref (zxa_this k) :: rest)) :=
  zx_callV (y := yX0_fault) (n := 0) (As := []) C (zxM_fault l k C.2.2 u  ) wsX0_step_c_fault wsX0_step_l_fault wsX0_step_i_fault wsX0_step_v_fault rfl (by decide +kernel) hP hS hsz hR hw rfl hdg (fun H1 locs1 hP1 hS1 => kk _ H1 locs1 rfl hP1 hS1)
end
def zx_trap (u : Zxs) : Zxs :=
  let u1 := zxs_state u 2
  u1
set_option maxHeartbeats 4000000 in
set_option maxRecDepth 100000 in
theorem zxM_trap (l : Launch) (k : Zxk) (Dk : ZxD k) (u : Zxs) : Met l yX0_trap (.code yX0_trap cX0_trap 1 none :: wsX0_step) (zrm 0) (ZxB k [.ref (zxa_this k)] u) (ZxQ k none (zx_trap u )) 0 0 (ZxA k) := by
  refine zxE_in (by decide) rfl (Nat.le_of_ble_eq_true rfl) Dk ?_
  intro p e s m below meth c ls C hr hlk hP hl
  have hx := C.1.1
  have hb := C.1.2.1
  have hl : lv_has ls 1 [(0, .ref (zxa_this k))] := hl
  have hS : va_S (ZxA k) s.heap s.heap [] := va_S.rf
  refine lv_aload_n hx hb dX0_trap_0 rfl (lv_at hl 0 rfl) ?_
  refine lv_iconst (v := 2) hx hb dX0_trap_1 (by decide) ?_
  refine zxP_state C hP hS dX0_trap_2 (fun u1 H locs hu1 hP hS => ?_)
  exact zx_vret C hr hlk hP hS (by subst hu1; exact rfl) dX0_trap_5
section
variable {p : Program} {l : Launch} {e : Env} {R : Room} {s : State} {m : MethodId} {args : Array Value} {below : List Frame} {meth : Method} {c : Code} {H : Heap} {locs : List Loc} {Q : State → Prop} {cc : ByteArray} {pc nL : Nat} {ls : Array Slot} {rest : List Value} {k : Zxk} {u : Zxs} {H0 : Heap}
set_option maxHeartbeats 4000000 in
set_option maxRecDepth 100000 in
theorem zxK_trap (C : ZxC p s m args c cc nL k) (hP : ZxP k u H) (hS : va_S (ZxA k) H0 H locs) (hsz : ls.size = nL) (hR : 0 + 1 ≤ R.frames ∧ 8 + (1 + 11) + 40 * 0 ≤ R.locals) (hw : (rest.map fun v => v.category).sum ≤ 8) (hdg : decode cc pc = .ok (.invokevirtual 136, 3)) (kk : ∀ (u1 : Zxs) (H1 : Heap) (locs1 : List Loc), u1 = zx_trap u  → ZxP k u1 H1 → va_S (ZxA k) H0 H1 locs1 → W p l e R s m args below meth c H1 locs1 0 0 Q (F0 m (pc + 3) ls (rest))) : W p l e R s m args below meth c H locs 0 0 Q (F0 m pc ls (.ref (zxa_this k) :: rest)) :=
  zx_callV (y := yX0_trap) (n := 0) (As := []) C (zxM_trap l k C.2.2 u  ) wsX0_step_c_trap wsX0_step_l_trap wsX0_step_i_trap wsX0_step_v_trap rfl (by decide +kernel) hP hS hsz hR hw rfl hdg (fun H1 locs1 hP1 hS1 => kk _ H1 locs1 rfl hP1 hS1)
end
def zx_halt (u : Zxs) : Zxs :=
  let u1 := zxs_state u 1
  let u2 := zx_finish u1 (zxg_pc u1) 2
  u2
set_option maxHeartbeats 4000000 in
set_option maxRecDepth 100000 in
theorem zxM_halt (l : Launch) (k : Zxk) (Dk : ZxD k) (u : Zxs) : Met l yX0_halt (.code yX0_halt cX0_halt 1 none :: wsX0_step) (zrm 1) (ZxB k [.ref (zxa_this k)] u) (ZxQ k none (zx_halt u )) 0 0 (ZxA k) := by
  refine zxE_in (by decide) rfl (Nat.le_of_ble_eq_true rfl) Dk ?_
  intro p e s m below meth c ls C hr hlk hP hl
  have hx := C.1.1
  have hb := C.1.2.1
  have hl : lv_has ls 1 [(0, .ref (zxa_this k))] := hl
  have hS : va_S (ZxA k) s.heap s.heap [] := va_S.rf
  refine lv_aload_n hx hb dX0_halt_0 rfl (lv_at hl 0 rfl) ?_
  refine lv_iconst (v := 1) hx hb dX0_halt_1 (by decide) ?_
  refine zxP_state C hP hS dX0_halt_2 (fun u1 H locs hu1 hP hS => ?_)
  refine lv_aload_n hx hb dX0_halt_5 rfl (lv_at hl 0 rfl) ?_
  refine lv_aload_n hx hb dX0_halt_6 rfl (lv_at hl 0 rfl) ?_
  refine zxG_pc C hP dX0_halt_7 ?_
  refine lv_iconst (v := 2) hx hb dX0_halt_10 (by decide) ?_
  refine zxK_finish C hP hS hl.1 (by decide) (Nat.le_of_ble_eq_true rfl) dX0_halt_11 (fun u2 H locs hu2 hP hS => ?_)
  exact zx_vret C hr hlk hP hS (by subst hu1 hu2; exact rfl) dX0_halt_14
section
variable {p : Program} {l : Launch} {e : Env} {R : Room} {s : State} {m : MethodId} {args : Array Value} {below : List Frame} {meth : Method} {c : Code} {H : Heap} {locs : List Loc} {Q : State → Prop} {cc : ByteArray} {pc nL : Nat} {ls : Array Slot} {rest : List Value} {k : Zxk} {u : Zxs} {H0 : Heap}
set_option maxHeartbeats 4000000 in
set_option maxRecDepth 100000 in
theorem zxK_halt (C : ZxC p s m args c cc nL k) (hP : ZxP k u H) (hS : va_S (ZxA k) H0 H locs) (hsz : ls.size = nL) (hR : 1 + 1 ≤ R.frames ∧ 8 + (1 + 11) + 40 * 1 ≤ R.locals) (hw : (rest.map fun v => v.category).sum ≤ 8) (hdg : decode cc pc = .ok (.invokevirtual 133, 3)) (kk : ∀ (u1 : Zxs) (H1 : Heap) (locs1 : List Loc), u1 = zx_halt u  → ZxP k u1 H1 → va_S (ZxA k) H0 H1 locs1 → W p l e R s m args below meth c H1 locs1 0 0 Q (F0 m (pc + 3) ls (rest))) : W p l e R s m args below meth c H locs 0 0 Q (F0 m pc ls (.ref (zxa_this k) :: rest)) :=
  zx_callV (y := yX0_halt) (n := 0) (As := []) C (zxM_halt l k C.2.2 u  ) wsX0_step_c_halt wsX0_step_l_halt wsX0_step_i_halt wsX0_step_v_halt rfl (by decide +kernel) hP hS hsz hR hw rfl hdg (fun H1 locs1 hP1 hS1 => kk _ H1 locs1 rfl hP1 hS1)
end
def zx_push (u : Zxs) (a1 a2 a3 : Int32) : Zxs :=
  if (zx_isWord ((zxg_sp u) + 1)) = 0 then (
    let u6 := zx_fault u
    u6)
  else (
    let u2 := zxs_sp u ((zxg_sp u) + 1)
    let u3 := zxs_top u2 a1
    let u4 := zxs_words u3 (upd (zxg_words u3) ((zxg_sp u) + 1).toNatClampNeg a1)
    let u5 := zx_finish u4 ((zxg_pc u4) + a2) a3
    u5)
set_option maxHeartbeats 4000000 in
set_option maxRecDepth 100000 in
theorem zxM_push (l : Launch) (k : Zxk) (Dk : ZxD k) (u : Zxs) (a1 a2 a3 : Int32) : Met l yX0_push (.code yX0_push cX0_push 5 none :: wsX0_step) (zrm 1) (ZxB k [.ref (zxa_this k), .int a1, .int a2, .int a3] u) (ZxQ k none (zx_push u a1 a2 a3)) 0 0 (ZxA k) := by
  refine zxE_in (by decide) rfl (Nat.le_of_ble_eq_true rfl) Dk ?_
  intro p e s m below meth c ls C hr hlk hP hl
  have hx := C.1.1
  have hb := C.1.2.1
  have hl : lv_has ls 5 [(0, .ref (zxa_this k)), (1, .int a1), (2, .int a2), (3, .int a3)] := hl
  have hS : va_S (ZxA k) s.heap s.heap [] := va_S.rf
  refine lv_aload_n hx hb dX0_push_0 rfl (lv_at hl 0 rfl) ?_
  refine zxG_sp C hP dX0_push_1 ?_
  refine lv_iconst (v := 1) hx hb dX0_push_4 (by decide) ?_
  refine lv_iadd hx hb dX0_push_5 ?_
  refine lv_istore (lv' := [(4, .int ((zxg_sp u) + 1)), (0, .ref (zxa_this k)), (1, .int a1), (2, .int a2), (3, .int a3)]) hx hb dX0_push_6 hl (by decide) rfl (fun ls hl => ?_)
  refine lv_iload hx hb dX0_push_8 (lv_at hl 0 rfl) ?_
  refine zxK_isWord C hl.1 (by decide) (Nat.le_of_ble_eq_true rfl) dX0_push_10 ?_
  refine lv_if_ne (tgt := 21) hx hb dX0_push_13 (by decide) (fun c1 => ?_) (fun c1 => ?_)
  · refine lv_aload_n hx hb dX0_push_21 rfl (lv_at hl 1 rfl) ?_
    refine lv_iload hx hb dX0_push_22 (lv_at hl 0 rfl) ?_
    refine zxP_sp C hP hS dX0_push_24 (fun u2 H locs hu2 hP hS => ?_)
    refine lv_aload_n hx hb dX0_push_27 rfl (lv_at hl 1 rfl) ?_
    refine lv_iload_n hx hb dX0_push_28 rfl (lv_at hl 2 rfl) ?_
    refine zxP_top C hP hS dX0_push_29 (fun u3 H locs hu3 hP hS => ?_)
    refine lv_aload_n hx hb dX0_push_32 rfl (lv_at hl 1 rfl) ?_
    refine zxG_words C hP dX0_push_33 ?_
    refine lv_iload hx hb dX0_push_36 (lv_at hl 0 rfl) ?_
    refine lv_iload_n hx hb dX0_push_38 rfl (lv_at hl 2 rfl) ?_
    refine zxS_words C hP hS (by first | with_reducible assumption | with_reducible exact zx_in (by with_reducible assumption) | with_reducible exact zx_b10 (by with_reducible assumption) | with_reducible exact zx_b21 (by with_reducible assumption) | with_reducible exact zx_b31 (by with_reducible assumption) | with_reducible exact zx_b32 (by with_reducible assumption) | with_reducible exact zx_b42 (by with_reducible assumption) | with_reducible exact zx_b43 (by with_reducible assumption) | with_reducible exact zx_b33 (by with_reducible assumption) | with_reducible exact zx_b40 (by with_reducible assumption) | with_reducible exact zx_b41 (by with_reducible assumption)) dX0_push_39 (fun u4 H locs hu4 hP hS => ?_)
    refine lv_aload_n hx hb dX0_push_40 rfl (lv_at hl 1 rfl) ?_
    refine lv_aload_n hx hb dX0_push_41 rfl (lv_at hl 1 rfl) ?_
    refine zxG_pc C hP dX0_push_42 ?_
    refine lv_iload_n hx hb dX0_push_45 rfl (lv_at hl 3 rfl) ?_
    refine lv_iadd hx hb dX0_push_46 ?_
    refine lv_iload_n hx hb dX0_push_47 rfl (lv_at hl 4 rfl) ?_
    refine zxK_finish C hP hS hl.1 (by decide) (Nat.le_of_ble_eq_true rfl) dX0_push_48 (fun u5 H locs hu5 hP hS => ?_)
    exact zx_vret C hr hlk hP hS (by subst hu2 hu3 hu4 hu5; exact (if_neg c1).trans (rfl)) dX0_push_51
  · refine lv_aload_n hx hb dX0_push_16 rfl (lv_at hl 1 rfl) ?_
    refine zxK_fault C hP hS hl.1 (by decide) (Nat.le_of_ble_eq_true rfl) dX0_push_17 (fun u6 H locs hu6 hP hS => ?_)
    exact zx_vret C hr hlk hP hS (by subst hu6; exact (if_pos c1).trans (rfl)) dX0_push_20
section
variable {p : Program} {l : Launch} {e : Env} {R : Room} {s : State} {m : MethodId} {args : Array Value} {below : List Frame} {meth : Method} {c : Code} {H : Heap} {locs : List Loc} {Q : State → Prop} {cc : ByteArray} {pc nL : Nat} {ls : Array Slot} {rest : List Value} {k : Zxk} {u : Zxs} {H0 : Heap}
set_option maxHeartbeats 4000000 in
set_option maxRecDepth 100000 in
theorem zxK_push {a1 a2 a3 : Int32} (C : ZxC p s m args c cc nL k) (hP : ZxP k u H) (hS : va_S (ZxA k) H0 H locs) (hsz : ls.size = nL) (hR : 1 + 1 ≤ R.frames ∧ 8 + (5 + 11) + 40 * 1 ≤ R.locals) (hw : (rest.map fun v => v.category).sum ≤ 8) (hdg : decode cc pc = .ok (.invokevirtual 89, 3)) (kk : ∀ (u1 : Zxs) (H1 : Heap) (locs1 : List Loc), u1 = zx_push u a1 a2 a3 → ZxP k u1 H1 → va_S (ZxA k) H0 H1 locs1 → W p l e R s m args below meth c H1 locs1 0 0 Q (F0 m (pc + 3) ls (rest))) : W p l e R s m args below meth c H locs 0 0 Q (F0 m pc ls (.int a3 :: .int a2 :: .int a1 :: .ref (zxa_this k) :: rest)) :=
  zx_callV (y := yX0_push) (n := 3) (As := [.int a1, .int a2, .int a3]) C (zxM_push l k C.2.2 u a1 a2 a3 ) wsX0_step_c_push wsX0_step_l_push wsX0_step_i_push wsX0_step_v_push rfl (by decide +kernel) hP hS hsz hR hw rfl hdg (fun H1 locs1 hP1 hS1 => kk _ H1 locs1 rfl hP1 hS1)
end
def zx_pop (u : Zxs) : Zxs :=
  if (zx_isWord ((zxg_sp u) - 1)) = 0 then (
    let u5 := zx_fault u
    u5)
  else (
    let u2 := zxs_sp u ((zxg_sp u) - 1)
    let u3 := zxs_top u2 (zxg_words u2 ((zxg_sp u) - 1).toNatClampNeg)
    let u4 := zx_finish u3 ((zxg_pc u3) + 1) 4
    u4)
set_option maxHeartbeats 4000000 in
set_option maxRecDepth 100000 in
theorem zxM_pop (l : Launch) (k : Zxk) (Dk : ZxD k) (u : Zxs) : Met l yX0_pop (.code yX0_pop cX0_pop 2 none :: wsX0_step) (zrm 1) (ZxB k [.ref (zxa_this k)] u) (ZxQ k none (zx_pop u )) 0 0 (ZxA k) := by
  refine zxE_in (by decide) rfl (Nat.le_of_ble_eq_true rfl) Dk ?_
  intro p e s m below meth c ls C hr hlk hP hl
  have hx := C.1.1
  have hb := C.1.2.1
  have hl : lv_has ls 2 [(0, .ref (zxa_this k))] := hl
  have hS : va_S (ZxA k) s.heap s.heap [] := va_S.rf
  refine lv_aload_n hx hb dX0_pop_0 rfl (lv_at hl 0 rfl) ?_
  refine zxG_sp C hP dX0_pop_1 ?_
  refine lv_iconst (v := 1) hx hb dX0_pop_4 (by decide) ?_
  refine lv_isub hx hb dX0_pop_5 ?_
  refine lv_istore_n (lv' := [(1, .int ((zxg_sp u) - 1)), (0, .ref (zxa_this k))]) hx hb dX0_pop_6 rfl hl (by decide) rfl (fun ls hl => ?_)
  refine lv_iload_n hx hb dX0_pop_7 rfl (lv_at hl 0 rfl) ?_
  refine zxK_isWord C hl.1 (by decide) (Nat.le_of_ble_eq_true rfl) dX0_pop_8 ?_
  refine lv_if_ne (tgt := 19) hx hb dX0_pop_11 (by decide) (fun c1 => ?_) (fun c1 => ?_)
  · refine lv_aload_n hx hb dX0_pop_19 rfl (lv_at hl 1 rfl) ?_
    refine lv_iload_n hx hb dX0_pop_20 rfl (lv_at hl 0 rfl) ?_
    refine zxP_sp C hP hS dX0_pop_21 (fun u2 H locs hu2 hP hS => ?_)
    refine lv_aload_n hx hb dX0_pop_24 rfl (lv_at hl 1 rfl) ?_
    refine lv_aload_n hx hb dX0_pop_25 rfl (lv_at hl 1 rfl) ?_
    refine zxG_words C hP dX0_pop_26 ?_
    refine lv_iload_n hx hb dX0_pop_29 rfl (lv_at hl 0 rfl) ?_
    refine zxL_words C hP (by first | with_reducible assumption | with_reducible exact zx_in (by with_reducible assumption) | with_reducible exact zx_b10 (by with_reducible assumption) | with_reducible exact zx_b21 (by with_reducible assumption) | with_reducible exact zx_b31 (by with_reducible assumption) | with_reducible exact zx_b32 (by with_reducible assumption) | with_reducible exact zx_b42 (by with_reducible assumption) | with_reducible exact zx_b43 (by with_reducible assumption) | with_reducible exact zx_b33 (by with_reducible assumption) | with_reducible exact zx_b40 (by with_reducible assumption) | with_reducible exact zx_b41 (by with_reducible assumption)) dX0_pop_30 ?_
    refine zxP_top C hP hS dX0_pop_31 (fun u3 H locs hu3 hP hS => ?_)
    refine lv_aload_n hx hb dX0_pop_34 rfl (lv_at hl 1 rfl) ?_
    refine lv_aload_n hx hb dX0_pop_35 rfl (lv_at hl 1 rfl) ?_
    refine zxG_pc C hP dX0_pop_36 ?_
    refine lv_iconst (v := 1) hx hb dX0_pop_39 (by decide) ?_
    refine lv_iadd hx hb dX0_pop_40 ?_
    refine lv_iconst (v := 4) hx hb dX0_pop_41 (by decide) ?_
    refine zxK_finish C hP hS hl.1 (by decide) (Nat.le_of_ble_eq_true rfl) dX0_pop_42 (fun u4 H locs hu4 hP hS => ?_)
    exact zx_vret C hr hlk hP hS (by subst hu2 hu3 hu4; exact (if_neg c1).trans (rfl)) dX0_pop_45
  · refine lv_aload_n hx hb dX0_pop_14 rfl (lv_at hl 1 rfl) ?_
    refine zxK_fault C hP hS hl.1 (by decide) (Nat.le_of_ble_eq_true rfl) dX0_pop_15 (fun u5 H locs hu5 hP hS => ?_)
    exact zx_vret C hr hlk hP hS (by subst hu5; exact (if_pos c1).trans (rfl)) dX0_pop_18
section
variable {p : Program} {l : Launch} {e : Env} {R : Room} {s : State} {m : MethodId} {args : Array Value} {below : List Frame} {meth : Method} {c : Code} {H : Heap} {locs : List Loc} {Q : State → Prop} {cc : ByteArray} {pc nL : Nat} {ls : Array Slot} {rest : List Value} {k : Zxk} {u : Zxs} {H0 : Heap}
set_option maxHeartbeats 4000000 in
set_option maxRecDepth 100000 in
theorem zxK_pop (C : ZxC p s m args c cc nL k) (hP : ZxP k u H) (hS : va_S (ZxA k) H0 H locs) (hsz : ls.size = nL) (hR : 1 + 1 ≤ R.frames ∧ 8 + (2 + 11) + 40 * 1 ≤ R.locals) (hw : (rest.map fun v => v.category).sum ≤ 8) (hdg : decode cc pc = .ok (.invokevirtual 93, 3)) (kk : ∀ (u1 : Zxs) (H1 : Heap) (locs1 : List Loc), u1 = zx_pop u  → ZxP k u1 H1 → va_S (ZxA k) H0 H1 locs1 → W p l e R s m args below meth c H1 locs1 0 0 Q (F0 m (pc + 3) ls (rest))) : W p l e R s m args below meth c H locs 0 0 Q (F0 m pc ls (.ref (zxa_this k) :: rest)) :=
  zx_callV (y := yX0_pop) (n := 0) (As := []) C (zxM_pop l k C.2.2 u  ) wsX0_step_c_pop wsX0_step_l_pop wsX0_step_i_pop wsX0_step_v_pop rfl (by decide +kernel) hP hS hsz hR hw rfl hdg (fun H1 locs1 hP1 hS1 => kk _ H1 locs1 rfl hP1 hS1)
end
def zx_swap (u : Zxs) : Zxs :=
  if (zx_isWord (zxg_sp u)) = 0 then (
    let u2 := zx_fault u
    u2)
  else (
    if (zx_isWord ((zxg_sp u) - 1)) = 0 then (
      let u8 := zx_fault u
      u8)
    else (
      let u4 := zxs_words u (upd (zxg_words u) (zxg_sp u).toNatClampNeg (zxg_words u ((zxg_sp u) - 1).toNatClampNeg))
      let u5 := zxs_words u4 (upd (zxg_words u4) ((zxg_sp u) - 1).toNatClampNeg (zxg_top u4))
      let u6 := zxs_top u5 (zxg_words u ((zxg_sp u) - 1).toNatClampNeg)
      let u7 := zx_finish u6 ((zxg_pc u6) + 1) 7
      u7))
set_option maxHeartbeats 4000000 in
set_option maxRecDepth 100000 in
theorem zxM_swap (l : Launch) (k : Zxk) (Dk : ZxD k) (u : Zxs) : Met l yX0_swap (.code yX0_swap cX0_swap 3 none :: wsX0_step) (zrm 1) (ZxB k [.ref (zxa_this k)] u) (ZxQ k none (zx_swap u )) 0 0 (ZxA k) := by
  refine zxE_in (by decide) rfl (Nat.le_of_ble_eq_true rfl) Dk ?_
  intro p e s m below meth c ls C hr hlk hP hl
  have hx := C.1.1
  have hb := C.1.2.1
  have hl : lv_has ls 3 [(0, .ref (zxa_this k))] := hl
  have hS : va_S (ZxA k) s.heap s.heap [] := va_S.rf
  refine lv_aload_n hx hb dX0_swap_0 rfl (lv_at hl 0 rfl) ?_
  refine zxG_sp C hP dX0_swap_1 ?_
  refine lv_iconst (v := 1) hx hb dX0_swap_4 (by decide) ?_
  refine lv_isub hx hb dX0_swap_5 ?_
  refine lv_istore_n (lv' := [(1, .int ((zxg_sp u) - 1)), (0, .ref (zxa_this k))]) hx hb dX0_swap_6 rfl hl (by decide) rfl (fun ls hl => ?_)
  refine lv_aload_n hx hb dX0_swap_7 rfl (lv_at hl 1 rfl) ?_
  refine zxG_sp C hP dX0_swap_8 ?_
  refine zxK_isWord C hl.1 (by decide) (Nat.le_of_ble_eq_true rfl) dX0_swap_11 ?_
  refine lv_if_eq (tgt := 24) hx hb dX0_swap_14 (by decide) (fun c1 => ?_) (fun c1 => ?_)
  · refine lv_aload_n hx hb dX0_swap_24 rfl (lv_at hl 1 rfl) ?_
    refine zxK_fault C hP hS hl.1 (by decide) (Nat.le_of_ble_eq_true rfl) dX0_swap_25 (fun u2 H locs hu2 hP hS => ?_)
    exact zx_vret C hr hlk hP hS (by subst hu2; exact (if_pos c1).trans (rfl)) dX0_swap_28
  · refine lv_iload_n hx hb dX0_swap_17 rfl (lv_at hl 0 rfl) ?_
    refine zxK_isWord C hl.1 (by decide) (Nat.le_of_ble_eq_true rfl) dX0_swap_18 ?_
    refine lv_if_ne (tgt := 29) hx hb dX0_swap_21 (by decide) (fun c3 => ?_) (fun c3 => ?_)
    · refine lv_aload_n hx hb dX0_swap_29 rfl (lv_at hl 1 rfl) ?_
      refine zxG_words C hP dX0_swap_30 ?_
      refine lv_iload_n hx hb dX0_swap_33 rfl (lv_at hl 0 rfl) ?_
      refine zxL_words C hP (by first | with_reducible assumption | with_reducible exact zx_in (by with_reducible assumption) | with_reducible exact zx_b10 (by with_reducible assumption) | with_reducible exact zx_b21 (by with_reducible assumption) | with_reducible exact zx_b31 (by with_reducible assumption) | with_reducible exact zx_b32 (by with_reducible assumption) | with_reducible exact zx_b42 (by with_reducible assumption) | with_reducible exact zx_b43 (by with_reducible assumption) | with_reducible exact zx_b33 (by with_reducible assumption) | with_reducible exact zx_b40 (by with_reducible assumption) | with_reducible exact zx_b41 (by with_reducible assumption)) dX0_swap_34 ?_
      refine lv_istore_n (lv' := [(2, .int (zxg_words u ((zxg_sp u) - 1).toNatClampNeg)), (1, .int ((zxg_sp u) - 1)), (0, .ref (zxa_this k))]) hx hb dX0_swap_35 rfl hl (by decide) rfl (fun ls hl => ?_)
      refine lv_aload_n hx hb dX0_swap_36 rfl (lv_at hl 2 rfl) ?_
      refine zxG_words C hP dX0_swap_37 ?_
      refine lv_aload_n hx hb dX0_swap_40 rfl (lv_at hl 2 rfl) ?_
      refine zxG_sp C hP dX0_swap_41 ?_
      refine lv_iload_n hx hb dX0_swap_44 rfl (lv_at hl 0 rfl) ?_
      refine zxS_words C hP hS (by first | with_reducible assumption | with_reducible exact zx_in (by with_reducible assumption) | with_reducible exact zx_b10 (by with_reducible assumption) | with_reducible exact zx_b21 (by with_reducible assumption) | with_reducible exact zx_b31 (by with_reducible assumption) | with_reducible exact zx_b32 (by with_reducible assumption) | with_reducible exact zx_b42 (by with_reducible assumption) | with_reducible exact zx_b43 (by with_reducible assumption) | with_reducible exact zx_b33 (by with_reducible assumption) | with_reducible exact zx_b40 (by with_reducible assumption) | with_reducible exact zx_b41 (by with_reducible assumption)) dX0_swap_45 (fun u4 H locs hu4 hP hS => ?_)
      refine lv_aload_n hx hb dX0_swap_46 rfl (lv_at hl 2 rfl) ?_
      refine zxG_words C hP dX0_swap_47 ?_
      refine lv_iload_n hx hb dX0_swap_50 rfl (lv_at hl 1 rfl) ?_
      refine lv_aload_n hx hb dX0_swap_51 rfl (lv_at hl 2 rfl) ?_
      refine zxG_top C hP dX0_swap_52 ?_
      refine zxS_words C hP hS (by first | with_reducible assumption | with_reducible exact zx_in (by with_reducible assumption) | with_reducible exact zx_b10 (by with_reducible assumption) | with_reducible exact zx_b21 (by with_reducible assumption) | with_reducible exact zx_b31 (by with_reducible assumption) | with_reducible exact zx_b32 (by with_reducible assumption) | with_reducible exact zx_b42 (by with_reducible assumption) | with_reducible exact zx_b43 (by with_reducible assumption) | with_reducible exact zx_b33 (by with_reducible assumption) | with_reducible exact zx_b40 (by with_reducible assumption) | with_reducible exact zx_b41 (by with_reducible assumption)) dX0_swap_55 (fun u5 H locs hu5 hP hS => ?_)
      refine lv_aload_n hx hb dX0_swap_56 rfl (lv_at hl 2 rfl) ?_
      refine lv_iload_n hx hb dX0_swap_57 rfl (lv_at hl 0 rfl) ?_
      refine zxP_top C hP hS dX0_swap_58 (fun u6 H locs hu6 hP hS => ?_)
      refine lv_aload_n hx hb dX0_swap_61 rfl (lv_at hl 2 rfl) ?_
      refine lv_aload_n hx hb dX0_swap_62 rfl (lv_at hl 2 rfl) ?_
      refine zxG_pc C hP dX0_swap_63 ?_
      refine lv_iconst (v := 1) hx hb dX0_swap_66 (by decide) ?_
      refine lv_iadd hx hb dX0_swap_67 ?_
      refine lv_bipush (v := 7) hx hb dX0_swap_68 (by decide) ?_
      refine zxK_finish C hP hS hl.1 (by decide) (Nat.le_of_ble_eq_true rfl) dX0_swap_70 (fun u7 H locs hu7 hP hS => ?_)
      exact zx_vret C hr hlk hP hS (by subst hu4 hu5 hu6 hu7; exact (if_neg c1).trans ((if_neg c3).trans (rfl))) dX0_swap_73
    · refine lv_aload_n hx hb dX0_swap_24 rfl (lv_at hl 1 rfl) ?_
      refine zxK_fault C hP hS hl.1 (by decide) (Nat.le_of_ble_eq_true rfl) dX0_swap_25 (fun u8 H locs hu8 hP hS => ?_)
      exact zx_vret C hr hlk hP hS (by subst hu8; exact (if_neg c1).trans ((if_pos c3).trans (rfl))) dX0_swap_28
section
variable {p : Program} {l : Launch} {e : Env} {R : Room} {s : State} {m : MethodId} {args : Array Value} {below : List Frame} {meth : Method} {c : Code} {H : Heap} {locs : List Loc} {Q : State → Prop} {cc : ByteArray} {pc nL : Nat} {ls : Array Slot} {rest : List Value} {k : Zxk} {u : Zxs} {H0 : Heap}
set_option maxHeartbeats 4000000 in
set_option maxRecDepth 100000 in
theorem zxK_swap (C : ZxC p s m args c cc nL k) (hP : ZxP k u H) (hS : va_S (ZxA k) H0 H locs) (hsz : ls.size = nL) (hR : 1 + 1 ≤ R.frames ∧ 8 + (3 + 11) + 40 * 1 ≤ R.locals) (hw : (rest.map fun v => v.category).sum ≤ 8) (hdg : decode cc pc = .ok (.invokevirtual 96, 3)) (kk : ∀ (u1 : Zxs) (H1 : Heap) (locs1 : List Loc), u1 = zx_swap u  → ZxP k u1 H1 → va_S (ZxA k) H0 H1 locs1 → W p l e R s m args below meth c H1 locs1 0 0 Q (F0 m (pc + 3) ls (rest))) : W p l e R s m args below meth c H locs 0 0 Q (F0 m pc ls (.ref (zxa_this k) :: rest)) :=
  zx_callV (y := yX0_swap) (n := 0) (As := []) C (zxM_swap l k C.2.2 u  ) wsX0_step_c_swap wsX0_step_l_swap wsX0_step_i_swap wsX0_step_v_swap rfl (by decide +kernel) hP hS hsz hR hw rfl hdg (fun H1 locs1 hP1 hS1 => kk _ H1 locs1 rfl hP1 hS1)
end
def zx_combine (u : Zxs) (a1 : Int32) : Zxs :=
  if (zx_isWord ((zxg_sp u) - 1)) = 0 then (
    let u6 := zx_fault u
    u6)
  else (
    let u2 := zxs_top u (zx_combined a1 (zxg_words u ((zxg_sp u) - 1).toNatClampNeg) (zxg_top u))
    let u3 := zxs_words u2 (upd (zxg_words u2) ((zxg_sp u) - 1).toNatClampNeg (zxg_top u2))
    let u4 := zxs_sp u3 ((zxg_sp u) - 1)
    let u5 := zx_finish u4 ((zxg_pc u4) + 1) 4
    u5)
set_option maxHeartbeats 4000000 in
set_option maxRecDepth 100000 in
theorem zxM_combine (l : Launch) (k : Zxk) (Dk : ZxD k) (u : Zxs) (a1 : Int32) : Met l yX0_combine (.code yX0_combine cX0_combine 3 none :: wsX0_step) (zrm 1) (ZxB k [.ref (zxa_this k), .int a1] u) (ZxQ k none (zx_combine u a1)) 0 0 (ZxA k) := by
  refine zxE_in (by decide) rfl (Nat.le_of_ble_eq_true rfl) Dk ?_
  intro p e s m below meth c ls C hr hlk hP hl
  have hx := C.1.1
  have hb := C.1.2.1
  have hl : lv_has ls 3 [(0, .ref (zxa_this k)), (1, .int a1)] := hl
  have hS : va_S (ZxA k) s.heap s.heap [] := va_S.rf
  refine lv_aload_n hx hb dX0_combine_0 rfl (lv_at hl 0 rfl) ?_
  refine zxG_sp C hP dX0_combine_1 ?_
  refine lv_iconst (v := 1) hx hb dX0_combine_4 (by decide) ?_
  refine lv_isub hx hb dX0_combine_5 ?_
  refine lv_istore_n (lv' := [(2, .int ((zxg_sp u) - 1)), (0, .ref (zxa_this k)), (1, .int a1)]) hx hb dX0_combine_6 rfl hl (by decide) rfl (fun ls hl => ?_)
  refine lv_iload_n hx hb dX0_combine_7 rfl (lv_at hl 0 rfl) ?_
  refine zxK_isWord C hl.1 (by decide) (Nat.le_of_ble_eq_true rfl) dX0_combine_8 ?_
  refine lv_if_ne (tgt := 19) hx hb dX0_combine_11 (by decide) (fun c1 => ?_) (fun c1 => ?_)
  · refine lv_aload_n hx hb dX0_combine_19 rfl (lv_at hl 1 rfl) ?_
    refine lv_iload_n hx hb dX0_combine_20 rfl (lv_at hl 2 rfl) ?_
    refine lv_aload_n hx hb dX0_combine_21 rfl (lv_at hl 1 rfl) ?_
    refine zxG_words C hP dX0_combine_22 ?_
    refine lv_iload_n hx hb dX0_combine_25 rfl (lv_at hl 0 rfl) ?_
    refine zxL_words C hP (by first | with_reducible assumption | with_reducible exact zx_in (by with_reducible assumption) | with_reducible exact zx_b10 (by with_reducible assumption) | with_reducible exact zx_b21 (by with_reducible assumption) | with_reducible exact zx_b31 (by with_reducible assumption) | with_reducible exact zx_b32 (by with_reducible assumption) | with_reducible exact zx_b42 (by with_reducible assumption) | with_reducible exact zx_b43 (by with_reducible assumption) | with_reducible exact zx_b33 (by with_reducible assumption) | with_reducible exact zx_b40 (by with_reducible assumption) | with_reducible exact zx_b41 (by with_reducible assumption)) dX0_combine_26 ?_
    refine lv_aload_n hx hb dX0_combine_27 rfl (lv_at hl 1 rfl) ?_
    refine zxG_top C hP dX0_combine_28 ?_
    refine zxK_combined C hl.1 (by decide) (Nat.le_of_ble_eq_true rfl) dX0_combine_31 ?_
    refine zxP_top C hP hS dX0_combine_34 (fun u2 H locs hu2 hP hS => ?_)
    refine lv_aload_n hx hb dX0_combine_37 rfl (lv_at hl 1 rfl) ?_
    refine zxG_words C hP dX0_combine_38 ?_
    refine lv_iload_n hx hb dX0_combine_41 rfl (lv_at hl 0 rfl) ?_
    refine lv_aload_n hx hb dX0_combine_42 rfl (lv_at hl 1 rfl) ?_
    refine zxG_top C hP dX0_combine_43 ?_
    refine zxS_words C hP hS (by first | with_reducible assumption | with_reducible exact zx_in (by with_reducible assumption) | with_reducible exact zx_b10 (by with_reducible assumption) | with_reducible exact zx_b21 (by with_reducible assumption) | with_reducible exact zx_b31 (by with_reducible assumption) | with_reducible exact zx_b32 (by with_reducible assumption) | with_reducible exact zx_b42 (by with_reducible assumption) | with_reducible exact zx_b43 (by with_reducible assumption) | with_reducible exact zx_b33 (by with_reducible assumption) | with_reducible exact zx_b40 (by with_reducible assumption) | with_reducible exact zx_b41 (by with_reducible assumption)) dX0_combine_46 (fun u3 H locs hu3 hP hS => ?_)
    refine lv_aload_n hx hb dX0_combine_47 rfl (lv_at hl 1 rfl) ?_
    refine lv_iload_n hx hb dX0_combine_48 rfl (lv_at hl 0 rfl) ?_
    refine zxP_sp C hP hS dX0_combine_49 (fun u4 H locs hu4 hP hS => ?_)
    refine lv_aload_n hx hb dX0_combine_52 rfl (lv_at hl 1 rfl) ?_
    refine lv_aload_n hx hb dX0_combine_53 rfl (lv_at hl 1 rfl) ?_
    refine zxG_pc C hP dX0_combine_54 ?_
    refine lv_iconst (v := 1) hx hb dX0_combine_57 (by decide) ?_
    refine lv_iadd hx hb dX0_combine_58 ?_
    refine lv_iconst (v := 4) hx hb dX0_combine_59 (by decide) ?_
    refine zxK_finish C hP hS hl.1 (by decide) (Nat.le_of_ble_eq_true rfl) dX0_combine_60 (fun u5 H locs hu5 hP hS => ?_)
    exact zx_vret C hr hlk hP hS (by subst hu2 hu3 hu4 hu5; exact (if_neg c1).trans (rfl)) dX0_combine_63
  · refine lv_aload_n hx hb dX0_combine_14 rfl (lv_at hl 1 rfl) ?_
    refine zxK_fault C hP hS hl.1 (by decide) (Nat.le_of_ble_eq_true rfl) dX0_combine_15 (fun u6 H locs hu6 hP hS => ?_)
    exact zx_vret C hr hlk hP hS (by subst hu6; exact (if_pos c1).trans (rfl)) dX0_combine_18
section
variable {p : Program} {l : Launch} {e : Env} {R : Room} {s : State} {m : MethodId} {args : Array Value} {below : List Frame} {meth : Method} {c : Code} {H : Heap} {locs : List Loc} {Q : State → Prop} {cc : ByteArray} {pc nL : Nat} {ls : Array Slot} {rest : List Value} {k : Zxk} {u : Zxs} {H0 : Heap}
set_option maxHeartbeats 4000000 in
set_option maxRecDepth 100000 in
theorem zxK_combine {a1 : Int32} (C : ZxC p s m args c cc nL k) (hP : ZxP k u H) (hS : va_S (ZxA k) H0 H locs) (hsz : ls.size = nL) (hR : 1 + 1 ≤ R.frames ∧ 8 + (3 + 11) + 40 * 1 ≤ R.locals) (hw : (rest.map fun v => v.category).sum ≤ 8) (hdg : decode cc pc = .ok (.invokevirtual 85, 3)) (kk : ∀ (u1 : Zxs) (H1 : Heap) (locs1 : List Loc), u1 = zx_combine u a1 → ZxP k u1 H1 → va_S (ZxA k) H0 H1 locs1 → W p l e R s m args below meth c H1 locs1 0 0 Q (F0 m (pc + 3) ls (rest))) : W p l e R s m args below meth c H locs 0 0 Q (F0 m pc ls (.int a1 :: .ref (zxa_this k) :: rest)) :=
  zx_callV (y := yX0_combine) (n := 1) (As := [.int a1]) C (zxM_combine l k C.2.2 u a1 ) wsX0_step_c_combine wsX0_step_l_combine wsX0_step_i_combine wsX0_step_v_combine rfl (by decide +kernel) hP hS hsz hR hw rfl hdg (fun H1 locs1 hP1 hS1 => kk _ H1 locs1 rfl hP1 hS1)
end
end
section
def zx_jump (u : Zxs) (a1 : Int32) : Zxs :=
  if (zx_areBytes (zxg_pc u) 3) = 0 then (
    let u3 := zx_fault u
    u3)
  else (
    let u2 := zx_finish u ((zxg_pc u) + (zx_signedPair u ((zxg_pc u) + 1))) a1
    u2)
set_option maxHeartbeats 4000000 in
set_option maxRecDepth 100000 in
theorem zxM_jump (l : Launch) (k : Zxk) (Dk : ZxD k) (u : Zxs) (a1 : Int32) : Met l yX0_jump (.code yX0_jump cX0_jump 2 none :: wsX0_step) (zrm 2) (ZxB k [.ref (zxa_this k), .int a1] u) (ZxQ k none (zx_jump u a1)) 0 0 (ZxA k) := by
  refine zxE_in (by decide) rfl (Nat.le_of_ble_eq_true rfl) Dk ?_
  intro p e s m below meth c ls C hr hlk hP hl
  have hx := C.1.1
  have hb := C.1.2.1
  have hl : lv_has ls 2 [(0, .ref (zxa_this k)), (1, .int a1)] := hl
  have hS : va_S (ZxA k) s.heap s.heap [] := va_S.rf
  refine lv_aload_n hx hb dX0_jump_0 rfl (lv_at hl 0 rfl) ?_
  refine zxG_pc C hP dX0_jump_1 ?_
  refine lv_iconst (v := 3) hx hb dX0_jump_4 (by decide) ?_
  refine zxK_areBytes C hl.1 (by decide) (Nat.le_of_ble_eq_true rfl) dX0_jump_5 ?_
  refine lv_if_ne (tgt := 16) hx hb dX0_jump_8 (by decide) (fun c1 => ?_) (fun c1 => ?_)
  · refine lv_aload_n hx hb dX0_jump_16 rfl (lv_at hl 0 rfl) ?_
    refine lv_aload_n hx hb dX0_jump_17 rfl (lv_at hl 0 rfl) ?_
    refine zxG_pc C hP dX0_jump_18 ?_
    refine lv_aload_n hx hb dX0_jump_21 rfl (lv_at hl 0 rfl) ?_
    refine lv_aload_n hx hb dX0_jump_22 rfl (lv_at hl 0 rfl) ?_
    refine zxG_pc C hP dX0_jump_23 ?_
    refine lv_iconst (v := 1) hx hb dX0_jump_26 (by decide) ?_
    refine lv_iadd hx hb dX0_jump_27 ?_
    refine zxK_signedPair C hP hl.1 (by decide) (Nat.le_of_ble_eq_true rfl) (by first | with_reducible assumption | with_reducible exact zx_in (by with_reducible assumption) | with_reducible exact zx_b10 (by with_reducible assumption) | with_reducible exact zx_b21 (by with_reducible assumption) | with_reducible exact zx_b31 (by with_reducible assumption) | with_reducible exact zx_b32 (by with_reducible assumption) | with_reducible exact zx_b42 (by with_reducible assumption) | with_reducible exact zx_b43 (by with_reducible assumption) | with_reducible exact zx_b33 (by with_reducible assumption) | with_reducible exact zx_b40 (by with_reducible assumption) | with_reducible exact zx_b41 (by with_reducible assumption)) (by first | with_reducible assumption | with_reducible exact zx_in (by with_reducible assumption) | with_reducible exact zx_b10 (by with_reducible assumption) | with_reducible exact zx_b21 (by with_reducible assumption) | with_reducible exact zx_b31 (by with_reducible assumption) | with_reducible exact zx_b32 (by with_reducible assumption) | with_reducible exact zx_b42 (by with_reducible assumption) | with_reducible exact zx_b43 (by with_reducible assumption) | with_reducible exact zx_b33 (by with_reducible assumption) | with_reducible exact zx_b40 (by with_reducible assumption) | with_reducible exact zx_b41 (by with_reducible assumption)) dX0_jump_28 ?_
    refine lv_iadd hx hb dX0_jump_31 ?_
    refine lv_iload_n hx hb dX0_jump_32 rfl (lv_at hl 1 rfl) ?_
    refine zxK_finish C hP hS hl.1 (by decide) (Nat.le_of_ble_eq_true rfl) dX0_jump_33 (fun u2 H locs hu2 hP hS => ?_)
    exact zx_vret C hr hlk hP hS (by subst hu2; exact (if_neg c1).trans (rfl)) dX0_jump_36
  · refine lv_aload_n hx hb dX0_jump_11 rfl (lv_at hl 0 rfl) ?_
    refine zxK_fault C hP hS hl.1 (by decide) (Nat.le_of_ble_eq_true rfl) dX0_jump_12 (fun u3 H locs hu3 hP hS => ?_)
    exact zx_vret C hr hlk hP hS (by subst hu3; exact (if_pos c1).trans (rfl)) dX0_jump_15
section
variable {p : Program} {l : Launch} {e : Env} {R : Room} {s : State} {m : MethodId} {args : Array Value} {below : List Frame} {meth : Method} {c : Code} {H : Heap} {locs : List Loc} {Q : State → Prop} {cc : ByteArray} {pc nL : Nat} {ls : Array Slot} {rest : List Value} {k : Zxk} {u : Zxs} {H0 : Heap}
set_option maxHeartbeats 4000000 in
set_option maxRecDepth 100000 in
theorem zxK_jump {a1 : Int32} (C : ZxC p s m args c cc nL k) (hP : ZxP k u H) (hS : va_S (ZxA k) H0 H locs) (hsz : ls.size = nL) (hR : 2 + 1 ≤ R.frames ∧ 8 + (2 + 11) + 40 * 2 ≤ R.locals) (hw : (rest.map fun v => v.category).sum ≤ 8) (hdg : decode cc pc = .ok (.invokevirtual 117, 3)) (kk : ∀ (u1 : Zxs) (H1 : Heap) (locs1 : List Loc), u1 = zx_jump u a1 → ZxP k u1 H1 → va_S (ZxA k) H0 H1 locs1 → W p l e R s m args below meth c H1 locs1 0 0 Q (F0 m (pc + 3) ls (rest))) : W p l e R s m args below meth c H locs 0 0 Q (F0 m pc ls (.int a1 :: .ref (zxa_this k) :: rest)) :=
  zx_callV (y := yX0_jump) (n := 1) (As := [.int a1]) C (zxM_jump l k C.2.2 u a1 ) wsX0_step_c_jump wsX0_step_l_jump wsX0_step_i_jump wsX0_step_v_jump rfl (by decide +kernel) hP hS hsz hR hw rfl hdg (fun H1 locs1 hP1 hS1 => kk _ H1 locs1 rfl hP1 hS1)
end
end
section
def zx_branch (u : Zxs) (a1 a2 a3 : Int32) : Zxs :=
  if a1 = 0 then (
    let u2 := zxs_sp u a2
    let u3 := zxs_top u2 (zxg_words u2 a2.toNatClampNeg)
    if a1 = 0 then (
      let u5 := zx_finish u3 ((zxg_pc u3) + 3) a3
      u5)
    else (
      let u6 := zx_jump u3 (a3 + 3)
      u6))
  else (
    if (zx_areBytes (zxg_pc u) 3) = 0 then (
      let u13 := zx_fault u
      u13)
    else (
      let u8 := zxs_sp u a2
      let u9 := zxs_top u8 (zxg_words u8 a2.toNatClampNeg)
      if a1 = 0 then (
        let u11 := zx_finish u9 ((zxg_pc u9) + 3) a3
        u11)
      else (
        let u12 := zx_jump u9 (a3 + 3)
        u12)))
set_option maxHeartbeats 4000000 in
set_option maxRecDepth 100000 in
theorem zxM_branch (l : Launch) (k : Zxk) (Dk : ZxD k) (u : Zxs) (a1 a2 a3 : Int32) (h1 : vp_in a2 256) : Met l yX0_branch (.code yX0_branch cX0_branch 4 none :: wsX0_step) (zrm 3) (ZxB k [.ref (zxa_this k), .int a1, .int a2, .int a3] u) (ZxQ k none (zx_branch u a1 a2 a3)) 0 0 (ZxA k) := by
  refine zxE_in (by decide) rfl (Nat.le_of_ble_eq_true rfl) Dk ?_
  intro p e s m below meth c ls C hr hlk hP hl
  have hx := C.1.1
  have hb := C.1.2.1
  have hl : lv_has ls 4 [(0, .ref (zxa_this k)), (1, .int a1), (2, .int a2), (3, .int a3)] := hl
  have hS : va_S (ZxA k) s.heap s.heap [] := va_S.rf
  refine lv_iload_n hx hb dX0_branch_0 rfl (lv_at hl 1 rfl) ?_
  refine lv_if_eq (tgt := 20) hx hb dX0_branch_1 (by decide) (fun c1 => ?_) (fun c1 => ?_)
  · refine lv_aload_n hx hb dX0_branch_20 rfl (lv_at hl 0 rfl) ?_
    refine lv_iload_n hx hb dX0_branch_21 rfl (lv_at hl 2 rfl) ?_
    refine zxP_sp C hP hS dX0_branch_22 (fun u2 H locs hu2 hP hS => ?_)
    refine lv_aload_n hx hb dX0_branch_25 rfl (lv_at hl 0 rfl) ?_
    refine lv_aload_n hx hb dX0_branch_26 rfl (lv_at hl 0 rfl) ?_
    refine zxG_words C hP dX0_branch_27 ?_
    refine lv_iload_n hx hb dX0_branch_30 rfl (lv_at hl 2 rfl) ?_
    refine zxL_words C hP (by first | with_reducible assumption | with_reducible exact zx_in (by with_reducible assumption) | with_reducible exact zx_b10 (by with_reducible assumption) | with_reducible exact zx_b21 (by with_reducible assumption) | with_reducible exact zx_b31 (by with_reducible assumption) | with_reducible exact zx_b32 (by with_reducible assumption) | with_reducible exact zx_b42 (by with_reducible assumption) | with_reducible exact zx_b43 (by with_reducible assumption) | with_reducible exact zx_b33 (by with_reducible assumption) | with_reducible exact zx_b40 (by with_reducible assumption) | with_reducible exact zx_b41 (by with_reducible assumption)) dX0_branch_31 ?_
    refine zxP_top C hP hS dX0_branch_32 (fun u3 H locs hu3 hP hS => ?_)
    refine lv_iload_n hx hb dX0_branch_35 rfl (lv_at hl 1 rfl) ?_
    refine lv_if_eq (tgt := 49) hx hb dX0_branch_36 (by decide) (fun c4 => ?_) (fun c4 => ?_)
    · refine lv_aload_n hx hb dX0_branch_49 rfl (lv_at hl 0 rfl) ?_
      refine lv_aload_n hx hb dX0_branch_50 rfl (lv_at hl 0 rfl) ?_
      refine zxG_pc C hP dX0_branch_51 ?_
      refine lv_iconst (v := 3) hx hb dX0_branch_54 (by decide) ?_
      refine lv_iadd hx hb dX0_branch_55 ?_
      refine lv_iload_n hx hb dX0_branch_56 rfl (lv_at hl 3 rfl) ?_
      refine zxK_finish C hP hS hl.1 (by decide) (Nat.le_of_ble_eq_true rfl) dX0_branch_57 (fun u5 H locs hu5 hP hS => ?_)
      exact zx_vret C hr hlk hP hS (by subst hu2 hu3 hu5; exact (if_pos c1).trans ((if_pos c4).trans (rfl))) dX0_branch_60
    · refine lv_aload_n hx hb dX0_branch_39 rfl (lv_at hl 0 rfl) ?_
      refine lv_iload_n hx hb dX0_branch_40 rfl (lv_at hl 3 rfl) ?_
      refine lv_iconst (v := 3) hx hb dX0_branch_41 (by decide) ?_
      refine lv_iadd hx hb dX0_branch_42 ?_
      refine zxK_jump C hP hS hl.1 (by decide) (Nat.le_of_ble_eq_true rfl) dX0_branch_43 (fun u6 H locs hu6 hP hS => ?_)
      refine lv_goto (tgt := 60) hx hb dX0_branch_46 (by decide) ?_
      exact zx_vret C hr hlk hP hS (by subst hu2 hu3 hu6; exact (if_pos c1).trans ((if_neg c4).trans (rfl))) dX0_branch_60
  · refine lv_aload_n hx hb dX0_branch_4 rfl (lv_at hl 0 rfl) ?_
    refine zxG_pc C hP dX0_branch_5 ?_
    refine lv_iconst (v := 3) hx hb dX0_branch_8 (by decide) ?_
    refine zxK_areBytes C hl.1 (by decide) (Nat.le_of_ble_eq_true rfl) dX0_branch_9 ?_
    refine lv_if_ne (tgt := 20) hx hb dX0_branch_12 (by decide) (fun c7 => ?_) (fun c7 => ?_)
    · refine lv_aload_n hx hb dX0_branch_20 rfl (lv_at hl 0 rfl) ?_
      refine lv_iload_n hx hb dX0_branch_21 rfl (lv_at hl 2 rfl) ?_
      refine zxP_sp C hP hS dX0_branch_22 (fun u8 H locs hu8 hP hS => ?_)
      refine lv_aload_n hx hb dX0_branch_25 rfl (lv_at hl 0 rfl) ?_
      refine lv_aload_n hx hb dX0_branch_26 rfl (lv_at hl 0 rfl) ?_
      refine zxG_words C hP dX0_branch_27 ?_
      refine lv_iload_n hx hb dX0_branch_30 rfl (lv_at hl 2 rfl) ?_
      refine zxL_words C hP (by first | with_reducible assumption | with_reducible exact zx_in (by with_reducible assumption) | with_reducible exact zx_b10 (by with_reducible assumption) | with_reducible exact zx_b21 (by with_reducible assumption) | with_reducible exact zx_b31 (by with_reducible assumption) | with_reducible exact zx_b32 (by with_reducible assumption) | with_reducible exact zx_b42 (by with_reducible assumption) | with_reducible exact zx_b43 (by with_reducible assumption) | with_reducible exact zx_b33 (by with_reducible assumption) | with_reducible exact zx_b40 (by with_reducible assumption) | with_reducible exact zx_b41 (by with_reducible assumption)) dX0_branch_31 ?_
      refine zxP_top C hP hS dX0_branch_32 (fun u9 H locs hu9 hP hS => ?_)
      refine lv_iload_n hx hb dX0_branch_35 rfl (lv_at hl 1 rfl) ?_
      refine lv_if_eq (tgt := 49) hx hb dX0_branch_36 (by decide) (fun c10 => ?_) (fun c10 => ?_)
      · refine lv_aload_n hx hb dX0_branch_49 rfl (lv_at hl 0 rfl) ?_
        refine lv_aload_n hx hb dX0_branch_50 rfl (lv_at hl 0 rfl) ?_
        refine zxG_pc C hP dX0_branch_51 ?_
        refine lv_iconst (v := 3) hx hb dX0_branch_54 (by decide) ?_
        refine lv_iadd hx hb dX0_branch_55 ?_
        refine lv_iload_n hx hb dX0_branch_56 rfl (lv_at hl 3 rfl) ?_
        refine zxK_finish C hP hS hl.1 (by decide) (Nat.le_of_ble_eq_true rfl) dX0_branch_57 (fun u11 H locs hu11 hP hS => ?_)
        exact zx_vret C hr hlk hP hS (by subst hu8 hu9 hu11; exact (if_neg c1).trans ((if_neg c7).trans ((if_pos c10).trans (rfl)))) dX0_branch_60
      · refine lv_aload_n hx hb dX0_branch_39 rfl (lv_at hl 0 rfl) ?_
        refine lv_iload_n hx hb dX0_branch_40 rfl (lv_at hl 3 rfl) ?_
        refine lv_iconst (v := 3) hx hb dX0_branch_41 (by decide) ?_
        refine lv_iadd hx hb dX0_branch_42 ?_
        refine zxK_jump C hP hS hl.1 (by decide) (Nat.le_of_ble_eq_true rfl) dX0_branch_43 (fun u12 H locs hu12 hP hS => ?_)
        refine lv_goto (tgt := 60) hx hb dX0_branch_46 (by decide) ?_
        exact zx_vret C hr hlk hP hS (by subst hu8 hu9 hu12; exact (if_neg c1).trans ((if_neg c7).trans ((if_neg c10).trans (rfl)))) dX0_branch_60
    · refine lv_aload_n hx hb dX0_branch_15 rfl (lv_at hl 0 rfl) ?_
      refine zxK_fault C hP hS hl.1 (by decide) (Nat.le_of_ble_eq_true rfl) dX0_branch_16 (fun u13 H locs hu13 hP hS => ?_)
      exact zx_vret C hr hlk hP hS (by subst hu13; exact (if_neg c1).trans ((if_pos c7).trans (rfl))) dX0_branch_19
section
variable {p : Program} {l : Launch} {e : Env} {R : Room} {s : State} {m : MethodId} {args : Array Value} {below : List Frame} {meth : Method} {c : Code} {H : Heap} {locs : List Loc} {Q : State → Prop} {cc : ByteArray} {pc nL : Nat} {ls : Array Slot} {rest : List Value} {k : Zxk} {u : Zxs} {H0 : Heap}
set_option maxHeartbeats 4000000 in
set_option maxRecDepth 100000 in
theorem zxK_branch {a1 a2 a3 : Int32} (C : ZxC p s m args c cc nL k) (hP : ZxP k u H) (hS : va_S (ZxA k) H0 H locs) (hsz : ls.size = nL) (hR : 3 + 1 ≤ R.frames ∧ 8 + (4 + 11) + 40 * 3 ≤ R.locals) (hw : (rest.map fun v => v.category).sum ≤ 8) (h1 : vp_in a2 256) (hdg : decode cc pc = .ok (.invokevirtual 155, 3)) (kk : ∀ (u1 : Zxs) (H1 : Heap) (locs1 : List Loc), u1 = zx_branch u a1 a2 a3 → ZxP k u1 H1 → va_S (ZxA k) H0 H1 locs1 → W p l e R s m args below meth c H1 locs1 0 0 Q (F0 m (pc + 3) ls (rest))) : W p l e R s m args below meth c H locs 0 0 Q (F0 m pc ls (.int a3 :: .int a2 :: .int a1 :: .ref (zxa_this k) :: rest)) :=
  zx_callV (y := yX0_branch) (n := 3) (As := [.int a1, .int a2, .int a3]) C (zxM_branch l k C.2.2 u a1 a2 a3 h1) wsX0_step_c_branch wsX0_step_l_branch wsX0_step_i_branch wsX0_step_v_branch rfl (by decide +kernel) hP hS hsz hR hw rfl hdg (fun H1 locs1 hP1 hS1 => kk _ H1 locs1 rfl hP1 hS1)
end
end
section
def zx_jumpOnTop (u : Zxs) (a1 : Int32) : Zxs :=
  if (zx_isWord ((zxg_sp u) - 1)) = 0 then (
    let u3 := zx_fault u
    u3)
  else (
    let u2 := zx_branch u a1 ((zxg_sp u) - 1) 8
    u2)
set_option maxHeartbeats 4000000 in
set_option maxRecDepth 100000 in
theorem zxM_jumpOnTop (l : Launch) (k : Zxk) (Dk : ZxD k) (u : Zxs) (a1 : Int32) : Met l yX0_jumpOnTop (.code yX0_jumpOnTop cX0_jumpOnTop 3 none :: wsX0_step) (zrm 4) (ZxB k [.ref (zxa_this k), .int a1] u) (ZxQ k none (zx_jumpOnTop u a1)) 0 0 (ZxA k) := by
  refine zxE_in (by decide) rfl (Nat.le_of_ble_eq_true rfl) Dk ?_
  intro p e s m below meth c ls C hr hlk hP hl
  have hx := C.1.1
  have hb := C.1.2.1
  have hl : lv_has ls 3 [(0, .ref (zxa_this k)), (1, .int a1)] := hl
  have hS : va_S (ZxA k) s.heap s.heap [] := va_S.rf
  refine lv_aload_n hx hb dX0_jumpOnTop_0 rfl (lv_at hl 0 rfl) ?_
  refine zxG_sp C hP dX0_jumpOnTop_1 ?_
  refine lv_iconst (v := 1) hx hb dX0_jumpOnTop_4 (by decide) ?_
  refine lv_isub hx hb dX0_jumpOnTop_5 ?_
  refine lv_istore_n (lv' := [(2, .int ((zxg_sp u) - 1)), (0, .ref (zxa_this k)), (1, .int a1)]) hx hb dX0_jumpOnTop_6 rfl hl (by decide) rfl (fun ls hl => ?_)
  refine lv_iload_n hx hb dX0_jumpOnTop_7 rfl (lv_at hl 0 rfl) ?_
  refine zxK_isWord C hl.1 (by decide) (Nat.le_of_ble_eq_true rfl) dX0_jumpOnTop_8 ?_
  refine lv_if_ne (tgt := 19) hx hb dX0_jumpOnTop_11 (by decide) (fun c1 => ?_) (fun c1 => ?_)
  · refine lv_aload_n hx hb dX0_jumpOnTop_19 rfl (lv_at hl 1 rfl) ?_
    refine lv_iload_n hx hb dX0_jumpOnTop_20 rfl (lv_at hl 2 rfl) ?_
    refine lv_iload_n hx hb dX0_jumpOnTop_21 rfl (lv_at hl 0 rfl) ?_
    refine lv_bipush (v := 8) hx hb dX0_jumpOnTop_22 (by decide) ?_
    refine zxK_branch C hP hS hl.1 (by decide) (Nat.le_of_ble_eq_true rfl) (by first | with_reducible assumption | with_reducible exact zx_in (by with_reducible assumption) | with_reducible exact zx_b10 (by with_reducible assumption) | with_reducible exact zx_b21 (by with_reducible assumption) | with_reducible exact zx_b31 (by with_reducible assumption) | with_reducible exact zx_b32 (by with_reducible assumption) | with_reducible exact zx_b42 (by with_reducible assumption) | with_reducible exact zx_b43 (by with_reducible assumption) | with_reducible exact zx_b33 (by with_reducible assumption) | with_reducible exact zx_b40 (by with_reducible assumption) | with_reducible exact zx_b41 (by with_reducible assumption)) dX0_jumpOnTop_24 (fun u2 H locs hu2 hP hS => ?_)
    exact zx_vret C hr hlk hP hS (by subst hu2; exact (if_neg c1).trans (rfl)) dX0_jumpOnTop_27
  · refine lv_aload_n hx hb dX0_jumpOnTop_14 rfl (lv_at hl 1 rfl) ?_
    refine zxK_fault C hP hS hl.1 (by decide) (Nat.le_of_ble_eq_true rfl) dX0_jumpOnTop_15 (fun u3 H locs hu3 hP hS => ?_)
    exact zx_vret C hr hlk hP hS (by subst hu3; exact (if_pos c1).trans (rfl)) dX0_jumpOnTop_18
section
variable {p : Program} {l : Launch} {e : Env} {R : Room} {s : State} {m : MethodId} {args : Array Value} {below : List Frame} {meth : Method} {c : Code} {H : Heap} {locs : List Loc} {Q : State → Prop} {cc : ByteArray} {pc nL : Nat} {ls : Array Slot} {rest : List Value} {k : Zxk} {u : Zxs} {H0 : Heap}
set_option maxHeartbeats 4000000 in
set_option maxRecDepth 100000 in
theorem zxK_jumpOnTop {a1 : Int32} (C : ZxC p s m args c cc nL k) (hP : ZxP k u H) (hS : va_S (ZxA k) H0 H locs) (hsz : ls.size = nL) (hR : 4 + 1 ≤ R.frames ∧ 8 + (3 + 11) + 40 * 4 ≤ R.locals) (hw : (rest.map fun v => v.category).sum ≤ 8) (hdg : decode cc pc = .ok (.invokevirtual 120, 3)) (kk : ∀ (u1 : Zxs) (H1 : Heap) (locs1 : List Loc), u1 = zx_jumpOnTop u a1 → ZxP k u1 H1 → va_S (ZxA k) H0 H1 locs1 → W p l e R s m args below meth c H1 locs1 0 0 Q (F0 m (pc + 3) ls (rest))) : W p l e R s m args below meth c H locs 0 0 Q (F0 m pc ls (.int a1 :: .ref (zxa_this k) :: rest)) :=
  zx_callV (y := yX0_jumpOnTop) (n := 1) (As := [.int a1]) C (zxM_jumpOnTop l k C.2.2 u a1 ) wsX0_step_c_jumpOnTop wsX0_step_l_jumpOnTop wsX0_step_i_jumpOnTop wsX0_step_v_jumpOnTop rfl (by decide +kernel) hP hS hsz hR hw rfl hdg (fun H1 locs1 hP1 hS1 => kk _ H1 locs1 rfl hP1 hS1)
end
end
section
def zx_jumpOnLike (u : Zxs) : Zxs :=
  if (zx_isWord ((zxg_sp u) - 1)) = 0 then (
    let u2 := zx_fault u
    u2)
  else (
    if (zx_isWord ((zxg_sp u) - 2)) = 0 then (
      let u7 := zx_fault u
      u7)
    else (
      if (zxg_top u) = (zxg_words u ((zxg_sp u) - 1).toNatClampNeg) then (
        let u6 := zx_branch u 1 ((zxg_sp u) - 2) 10
        u6)
      else (
        let u5 := zx_branch u 0 ((zxg_sp u) - 2) 10
        u5)))
set_option maxHeartbeats 4000000 in
set_option maxRecDepth 100000 in
theorem zxM_jumpOnLike (l : Launch) (k : Zxk) (Dk : ZxD k) (u : Zxs) : Met l yX0_jumpOnLike (.code yX0_jumpOnLike cX0_jumpOnLike 3 none :: wsX0_step) (zrm 4) (ZxB k [.ref (zxa_this k)] u) (ZxQ k none (zx_jumpOnLike u )) 0 0 (ZxA k) := by
  refine zxE_in (by decide) rfl (Nat.le_of_ble_eq_true rfl) Dk ?_
  intro p e s m below meth c ls C hr hlk hP hl
  have hx := C.1.1
  have hb := C.1.2.1
  have hl : lv_has ls 3 [(0, .ref (zxa_this k))] := hl
  have hS : va_S (ZxA k) s.heap s.heap [] := va_S.rf
  refine lv_aload_n hx hb dX0_jumpOnLike_0 rfl (lv_at hl 0 rfl) ?_
  refine zxG_sp C hP dX0_jumpOnLike_1 ?_
  refine lv_iconst (v := 1) hx hb dX0_jumpOnLike_4 (by decide) ?_
  refine lv_isub hx hb dX0_jumpOnLike_5 ?_
  refine lv_istore_n (lv' := [(1, .int ((zxg_sp u) - 1)), (0, .ref (zxa_this k))]) hx hb dX0_jumpOnLike_6 rfl hl (by decide) rfl (fun ls hl => ?_)
  refine lv_aload_n hx hb dX0_jumpOnLike_7 rfl (lv_at hl 1 rfl) ?_
  refine zxG_sp C hP dX0_jumpOnLike_8 ?_
  refine lv_iconst (v := 2) hx hb dX0_jumpOnLike_11 (by decide) ?_
  refine lv_isub hx hb dX0_jumpOnLike_12 ?_
  refine lv_istore_n (lv' := [(2, .int ((zxg_sp u) - 2)), (1, .int ((zxg_sp u) - 1)), (0, .ref (zxa_this k))]) hx hb dX0_jumpOnLike_13 rfl hl (by decide) rfl (fun ls hl => ?_)
  refine lv_iload_n hx hb dX0_jumpOnLike_14 rfl (lv_at hl 1 rfl) ?_
  refine zxK_isWord C hl.1 (by decide) (Nat.le_of_ble_eq_true rfl) dX0_jumpOnLike_15 ?_
  refine lv_if_eq (tgt := 28) hx hb dX0_jumpOnLike_18 (by decide) (fun c1 => ?_) (fun c1 => ?_)
  · refine lv_aload_n hx hb dX0_jumpOnLike_28 rfl (lv_at hl 2 rfl) ?_
    refine zxK_fault C hP hS hl.1 (by decide) (Nat.le_of_ble_eq_true rfl) dX0_jumpOnLike_29 (fun u2 H locs hu2 hP hS => ?_)
    exact zx_vret C hr hlk hP hS (by subst hu2; exact (if_pos c1).trans (rfl)) dX0_jumpOnLike_32
  · refine lv_iload_n hx hb dX0_jumpOnLike_21 rfl (lv_at hl 0 rfl) ?_
    refine zxK_isWord C hl.1 (by decide) (Nat.le_of_ble_eq_true rfl) dX0_jumpOnLike_22 ?_
    refine lv_if_ne (tgt := 33) hx hb dX0_jumpOnLike_25 (by decide) (fun c3 => ?_) (fun c3 => ?_)
    · refine lv_aload_n hx hb dX0_jumpOnLike_33 rfl (lv_at hl 2 rfl) ?_
      refine lv_aload_n hx hb dX0_jumpOnLike_34 rfl (lv_at hl 2 rfl) ?_
      refine zxG_top C hP dX0_jumpOnLike_35 ?_
      refine lv_aload_n hx hb dX0_jumpOnLike_38 rfl (lv_at hl 2 rfl) ?_
      refine zxG_words C hP dX0_jumpOnLike_39 ?_
      refine lv_iload_n hx hb dX0_jumpOnLike_42 rfl (lv_at hl 1 rfl) ?_
      refine zxL_words C hP (by first | with_reducible assumption | with_reducible exact zx_in (by with_reducible assumption) | with_reducible exact zx_b10 (by with_reducible assumption) | with_reducible exact zx_b21 (by with_reducible assumption) | with_reducible exact zx_b31 (by with_reducible assumption) | with_reducible exact zx_b32 (by with_reducible assumption) | with_reducible exact zx_b42 (by with_reducible assumption) | with_reducible exact zx_b43 (by with_reducible assumption) | with_reducible exact zx_b33 (by with_reducible assumption) | with_reducible exact zx_b40 (by with_reducible assumption) | with_reducible exact zx_b41 (by with_reducible assumption)) dX0_jumpOnLike_43 ?_
      refine lv_icmp_ne (tgt := 51) hx hb dX0_jumpOnLike_44 (by decide) (fun c4 => ?_) (fun c4 => ?_)
      · refine lv_iconst (v := 0) hx hb dX0_jumpOnLike_51 (by decide) ?_
        refine lv_iload_n hx hb dX0_jumpOnLike_52 rfl (lv_at hl 0 rfl) ?_
        refine lv_bipush (v := 10) hx hb dX0_jumpOnLike_53 (by decide) ?_
        refine zxK_branch C hP hS hl.1 (by decide) (Nat.le_of_ble_eq_true rfl) (by first | with_reducible assumption | with_reducible exact zx_in (by with_reducible assumption) | with_reducible exact zx_b10 (by with_reducible assumption) | with_reducible exact zx_b21 (by with_reducible assumption) | with_reducible exact zx_b31 (by with_reducible assumption) | with_reducible exact zx_b32 (by with_reducible assumption) | with_reducible exact zx_b42 (by with_reducible assumption) | with_reducible exact zx_b43 (by with_reducible assumption) | with_reducible exact zx_b33 (by with_reducible assumption) | with_reducible exact zx_b40 (by with_reducible assumption) | with_reducible exact zx_b41 (by with_reducible assumption)) dX0_jumpOnLike_55 (fun u5 H locs hu5 hP hS => ?_)
        exact zx_vret C hr hlk hP hS (by subst hu5; exact (if_neg c1).trans ((if_neg c3).trans ((if_neg c4).trans (rfl)))) dX0_jumpOnLike_58
      · refine lv_iconst (v := 1) hx hb dX0_jumpOnLike_47 (by decide) ?_
        refine lv_goto (tgt := 52) hx hb dX0_jumpOnLike_48 (by decide) ?_
        refine lv_iload_n hx hb dX0_jumpOnLike_52 rfl (lv_at hl 0 rfl) ?_
        refine lv_bipush (v := 10) hx hb dX0_jumpOnLike_53 (by decide) ?_
        refine zxK_branch C hP hS hl.1 (by decide) (Nat.le_of_ble_eq_true rfl) (by first | with_reducible assumption | with_reducible exact zx_in (by with_reducible assumption) | with_reducible exact zx_b10 (by with_reducible assumption) | with_reducible exact zx_b21 (by with_reducible assumption) | with_reducible exact zx_b31 (by with_reducible assumption) | with_reducible exact zx_b32 (by with_reducible assumption) | with_reducible exact zx_b42 (by with_reducible assumption) | with_reducible exact zx_b43 (by with_reducible assumption) | with_reducible exact zx_b33 (by with_reducible assumption) | with_reducible exact zx_b40 (by with_reducible assumption) | with_reducible exact zx_b41 (by with_reducible assumption)) dX0_jumpOnLike_55 (fun u6 H locs hu6 hP hS => ?_)
        exact zx_vret C hr hlk hP hS (by subst hu6; exact (if_neg c1).trans ((if_neg c3).trans ((if_pos c4).trans (rfl)))) dX0_jumpOnLike_58
    · refine lv_aload_n hx hb dX0_jumpOnLike_28 rfl (lv_at hl 2 rfl) ?_
      refine zxK_fault C hP hS hl.1 (by decide) (Nat.le_of_ble_eq_true rfl) dX0_jumpOnLike_29 (fun u7 H locs hu7 hP hS => ?_)
      exact zx_vret C hr hlk hP hS (by subst hu7; exact (if_neg c1).trans ((if_pos c3).trans (rfl))) dX0_jumpOnLike_32
section
variable {p : Program} {l : Launch} {e : Env} {R : Room} {s : State} {m : MethodId} {args : Array Value} {below : List Frame} {meth : Method} {c : Code} {H : Heap} {locs : List Loc} {Q : State → Prop} {cc : ByteArray} {pc nL : Nat} {ls : Array Slot} {rest : List Value} {k : Zxk} {u : Zxs} {H0 : Heap}
set_option maxHeartbeats 4000000 in
set_option maxRecDepth 100000 in
theorem zxK_jumpOnLike (C : ZxC p s m args c cc nL k) (hP : ZxP k u H) (hS : va_S (ZxA k) H0 H locs) (hsz : ls.size = nL) (hR : 4 + 1 ≤ R.frames ∧ 8 + (3 + 11) + 40 * 4 ≤ R.locals) (hw : (rest.map fun v => v.category).sum ≤ 8) (hdg : decode cc pc = .ok (.invokevirtual 124, 3)) (kk : ∀ (u1 : Zxs) (H1 : Heap) (locs1 : List Loc), u1 = zx_jumpOnLike u  → ZxP k u1 H1 → va_S (ZxA k) H0 H1 locs1 → W p l e R s m args below meth c H1 locs1 0 0 Q (F0 m (pc + 3) ls (rest))) : W p l e R s m args below meth c H locs 0 0 Q (F0 m pc ls (.ref (zxa_this k) :: rest)) :=
  zx_callV (y := yX0_jumpOnLike) (n := 0) (As := []) C (zxM_jumpOnLike l k C.2.2 u  ) wsX0_step_c_jumpOnLike wsX0_step_l_jumpOnLike wsX0_step_i_jumpOnLike wsX0_step_v_jumpOnLike rfl (by decide +kernel) hP hS hsz hR hw rfl hdg (fun H1 locs1 hP1 hS1 => kk _ H1 locs1 rfl hP1 hS1)
end
end
section
def zx_store (u : Zxs) (a1 a2 a3 : Int32) : Zxs :=
  if (zx_isWord a1) = 0 then (
    let u2 := zx_fault u
    u2)
  else (
    if (zx_isWord ((zxg_sp u) - 1)) = 0 then (
      let u8 := zx_fault u
      u8)
    else (
      let u4 := zxs_words u (upd (zxg_words u) a1.toNatClampNeg (zxg_top u))
      let u5 := zxs_sp u4 ((zxg_sp u) - 1)
      let u6 := zxs_top u5 (zxg_words u5 ((zxg_sp u) - 1).toNatClampNeg)
      let u7 := zx_finish u6 ((zxg_pc u6) + a2) a3
      u7))
set_option maxHeartbeats 4000000 in
set_option maxRecDepth 100000 in
theorem zxM_store (l : Launch) (k : Zxk) (Dk : ZxD k) (u : Zxs) (a1 a2 a3 : Int32) : Met l yX0_store (.code yX0_store cX0_store 5 none :: wsX0_step) (zrm 1) (ZxB k [.ref (zxa_this k), .int a1, .int a2, .int a3] u) (ZxQ k none (zx_store u a1 a2 a3)) 0 0 (ZxA k) := by
  refine zxE_in (by decide) rfl (Nat.le_of_ble_eq_true rfl) Dk ?_
  intro p e s m below meth c ls C hr hlk hP hl
  have hx := C.1.1
  have hb := C.1.2.1
  have hl : lv_has ls 5 [(0, .ref (zxa_this k)), (1, .int a1), (2, .int a2), (3, .int a3)] := hl
  have hS : va_S (ZxA k) s.heap s.heap [] := va_S.rf
  refine lv_aload_n hx hb dX0_store_0 rfl (lv_at hl 0 rfl) ?_
  refine zxG_sp C hP dX0_store_1 ?_
  refine lv_iconst (v := 1) hx hb dX0_store_4 (by decide) ?_
  refine lv_isub hx hb dX0_store_5 ?_
  refine lv_istore (lv' := [(4, .int ((zxg_sp u) - 1)), (0, .ref (zxa_this k)), (1, .int a1), (2, .int a2), (3, .int a3)]) hx hb dX0_store_6 hl (by decide) rfl (fun ls hl => ?_)
  refine lv_iload_n hx hb dX0_store_8 rfl (lv_at hl 2 rfl) ?_
  refine zxK_isWord C hl.1 (by decide) (Nat.le_of_ble_eq_true rfl) dX0_store_9 ?_
  refine lv_if_eq (tgt := 23) hx hb dX0_store_12 (by decide) (fun c1 => ?_) (fun c1 => ?_)
  · refine lv_aload_n hx hb dX0_store_23 rfl (lv_at hl 1 rfl) ?_
    refine zxK_fault C hP hS hl.1 (by decide) (Nat.le_of_ble_eq_true rfl) dX0_store_24 (fun u2 H locs hu2 hP hS => ?_)
    exact zx_vret C hr hlk hP hS (by subst hu2; exact (if_pos c1).trans (rfl)) dX0_store_27
  · refine lv_iload hx hb dX0_store_15 (lv_at hl 0 rfl) ?_
    refine zxK_isWord C hl.1 (by decide) (Nat.le_of_ble_eq_true rfl) dX0_store_17 ?_
    refine lv_if_ne (tgt := 28) hx hb dX0_store_20 (by decide) (fun c3 => ?_) (fun c3 => ?_)
    · refine lv_aload_n hx hb dX0_store_28 rfl (lv_at hl 1 rfl) ?_
      refine zxG_words C hP dX0_store_29 ?_
      refine lv_iload_n hx hb dX0_store_32 rfl (lv_at hl 2 rfl) ?_
      refine lv_aload_n hx hb dX0_store_33 rfl (lv_at hl 1 rfl) ?_
      refine zxG_top C hP dX0_store_34 ?_
      refine zxS_words C hP hS (by first | with_reducible assumption | with_reducible exact zx_in (by with_reducible assumption) | with_reducible exact zx_b10 (by with_reducible assumption) | with_reducible exact zx_b21 (by with_reducible assumption) | with_reducible exact zx_b31 (by with_reducible assumption) | with_reducible exact zx_b32 (by with_reducible assumption) | with_reducible exact zx_b42 (by with_reducible assumption) | with_reducible exact zx_b43 (by with_reducible assumption) | with_reducible exact zx_b33 (by with_reducible assumption) | with_reducible exact zx_b40 (by with_reducible assumption) | with_reducible exact zx_b41 (by with_reducible assumption)) dX0_store_37 (fun u4 H locs hu4 hP hS => ?_)
      refine lv_aload_n hx hb dX0_store_38 rfl (lv_at hl 1 rfl) ?_
      refine lv_iload hx hb dX0_store_39 (lv_at hl 0 rfl) ?_
      refine zxP_sp C hP hS dX0_store_41 (fun u5 H locs hu5 hP hS => ?_)
      refine lv_aload_n hx hb dX0_store_44 rfl (lv_at hl 1 rfl) ?_
      refine lv_aload_n hx hb dX0_store_45 rfl (lv_at hl 1 rfl) ?_
      refine zxG_words C hP dX0_store_46 ?_
      refine lv_iload hx hb dX0_store_49 (lv_at hl 0 rfl) ?_
      refine zxL_words C hP (by first | with_reducible assumption | with_reducible exact zx_in (by with_reducible assumption) | with_reducible exact zx_b10 (by with_reducible assumption) | with_reducible exact zx_b21 (by with_reducible assumption) | with_reducible exact zx_b31 (by with_reducible assumption) | with_reducible exact zx_b32 (by with_reducible assumption) | with_reducible exact zx_b42 (by with_reducible assumption) | with_reducible exact zx_b43 (by with_reducible assumption) | with_reducible exact zx_b33 (by with_reducible assumption) | with_reducible exact zx_b40 (by with_reducible assumption) | with_reducible exact zx_b41 (by with_reducible assumption)) dX0_store_51 ?_
      refine zxP_top C hP hS dX0_store_52 (fun u6 H locs hu6 hP hS => ?_)
      refine lv_aload_n hx hb dX0_store_55 rfl (lv_at hl 1 rfl) ?_
      refine lv_aload_n hx hb dX0_store_56 rfl (lv_at hl 1 rfl) ?_
      refine zxG_pc C hP dX0_store_57 ?_
      refine lv_iload_n hx hb dX0_store_60 rfl (lv_at hl 3 rfl) ?_
      refine lv_iadd hx hb dX0_store_61 ?_
      refine lv_iload_n hx hb dX0_store_62 rfl (lv_at hl 4 rfl) ?_
      refine zxK_finish C hP hS hl.1 (by decide) (Nat.le_of_ble_eq_true rfl) dX0_store_63 (fun u7 H locs hu7 hP hS => ?_)
      exact zx_vret C hr hlk hP hS (by subst hu4 hu5 hu6 hu7; exact (if_neg c1).trans ((if_neg c3).trans (rfl))) dX0_store_66
    · refine lv_aload_n hx hb dX0_store_23 rfl (lv_at hl 1 rfl) ?_
      refine zxK_fault C hP hS hl.1 (by decide) (Nat.le_of_ble_eq_true rfl) dX0_store_24 (fun u8 H locs hu8 hP hS => ?_)
      exact zx_vret C hr hlk hP hS (by subst hu8; exact (if_neg c1).trans ((if_pos c3).trans (rfl))) dX0_store_27
section
variable {p : Program} {l : Launch} {e : Env} {R : Room} {s : State} {m : MethodId} {args : Array Value} {below : List Frame} {meth : Method} {c : Code} {H : Heap} {locs : List Loc} {Q : State → Prop} {cc : ByteArray} {pc nL : Nat} {ls : Array Slot} {rest : List Value} {k : Zxk} {u : Zxs} {H0 : Heap}
set_option maxHeartbeats 4000000 in
set_option maxRecDepth 100000 in
theorem zxK_store {a1 a2 a3 : Int32} (C : ZxC p s m args c cc nL k) (hP : ZxP k u H) (hS : va_S (ZxA k) H0 H locs) (hsz : ls.size = nL) (hR : 1 + 1 ≤ R.frames ∧ 8 + (5 + 11) + 40 * 1 ≤ R.locals) (hw : (rest.map fun v => v.category).sum ≤ 8) (hdg : decode cc pc = .ok (.invokevirtual 146, 3)) (kk : ∀ (u1 : Zxs) (H1 : Heap) (locs1 : List Loc), u1 = zx_store u a1 a2 a3 → ZxP k u1 H1 → va_S (ZxA k) H0 H1 locs1 → W p l e R s m args below meth c H1 locs1 0 0 Q (F0 m (pc + 3) ls (rest))) : W p l e R s m args below meth c H locs 0 0 Q (F0 m pc ls (.int a3 :: .int a2 :: .int a1 :: .ref (zxa_this k) :: rest)) :=
  zx_callV (y := yX0_store) (n := 3) (As := [.int a1, .int a2, .int a3]) C (zxM_store l k C.2.2 u a1 a2 a3 ) wsX0_step_c_store wsX0_step_l_store wsX0_step_i_store wsX0_step_v_store rfl (by decide +kernel) hP hS hsz hR hw rfl hdg (fun H1 locs1 hP1 hS1 => kk _ H1 locs1 rfl hP1 hS1)
end
end
section
def zx_load (u : Zxs) (a1 a2 a3 : Int32) : Zxs :=
  if (zx_isWord a1) = 0 then (
    let u3 := zx_fault u
    u3)
  else (
    let u2 := zx_push u (zxg_words u a1.toNatClampNeg) a2 a3
    u2)
set_option maxHeartbeats 4000000 in
set_option maxRecDepth 100000 in
theorem zxM_load (l : Launch) (k : Zxk) (Dk : ZxD k) (u : Zxs) (a1 a2 a3 : Int32) : Met l yX0_load (.code yX0_load cX0_load 4 none :: wsX0_step) (zrm 2) (ZxB k [.ref (zxa_this k), .int a1, .int a2, .int a3] u) (ZxQ k none (zx_load u a1 a2 a3)) 0 0 (ZxA k) := by
  refine zxE_in (by decide) rfl (Nat.le_of_ble_eq_true rfl) Dk ?_
  intro p e s m below meth c ls C hr hlk hP hl
  have hx := C.1.1
  have hb := C.1.2.1
  have hl : lv_has ls 4 [(0, .ref (zxa_this k)), (1, .int a1), (2, .int a2), (3, .int a3)] := hl
  have hS : va_S (ZxA k) s.heap s.heap [] := va_S.rf
  refine lv_iload_n hx hb dX0_load_0 rfl (lv_at hl 1 rfl) ?_
  refine zxK_isWord C hl.1 (by decide) (Nat.le_of_ble_eq_true rfl) dX0_load_1 ?_
  refine lv_if_ne (tgt := 12) hx hb dX0_load_4 (by decide) (fun c1 => ?_) (fun c1 => ?_)
  · refine lv_aload_n hx hb dX0_load_12 rfl (lv_at hl 0 rfl) ?_
    refine lv_aload_n hx hb dX0_load_13 rfl (lv_at hl 0 rfl) ?_
    refine zxG_words C hP dX0_load_14 ?_
    refine lv_iload_n hx hb dX0_load_17 rfl (lv_at hl 1 rfl) ?_
    refine zxL_words C hP (by first | with_reducible assumption | with_reducible exact zx_in (by with_reducible assumption) | with_reducible exact zx_b10 (by with_reducible assumption) | with_reducible exact zx_b21 (by with_reducible assumption) | with_reducible exact zx_b31 (by with_reducible assumption) | with_reducible exact zx_b32 (by with_reducible assumption) | with_reducible exact zx_b42 (by with_reducible assumption) | with_reducible exact zx_b43 (by with_reducible assumption) | with_reducible exact zx_b33 (by with_reducible assumption) | with_reducible exact zx_b40 (by with_reducible assumption) | with_reducible exact zx_b41 (by with_reducible assumption)) dX0_load_18 ?_
    refine lv_iload_n hx hb dX0_load_19 rfl (lv_at hl 2 rfl) ?_
    refine lv_iload_n hx hb dX0_load_20 rfl (lv_at hl 3 rfl) ?_
    refine zxK_push C hP hS hl.1 (by decide) (Nat.le_of_ble_eq_true rfl) dX0_load_21 (fun u2 H locs hu2 hP hS => ?_)
    exact zx_vret C hr hlk hP hS (by subst hu2; exact (if_neg c1).trans (rfl)) dX0_load_24
  · refine lv_aload_n hx hb dX0_load_7 rfl (lv_at hl 0 rfl) ?_
    refine zxK_fault C hP hS hl.1 (by decide) (Nat.le_of_ble_eq_true rfl) dX0_load_8 (fun u3 H locs hu3 hP hS => ?_)
    exact zx_vret C hr hlk hP hS (by subst hu3; exact (if_pos c1).trans (rfl)) dX0_load_11
section
variable {p : Program} {l : Launch} {e : Env} {R : Room} {s : State} {m : MethodId} {args : Array Value} {below : List Frame} {meth : Method} {c : Code} {H : Heap} {locs : List Loc} {Q : State → Prop} {cc : ByteArray} {pc nL : Nat} {ls : Array Slot} {rest : List Value} {k : Zxk} {u : Zxs} {H0 : Heap}
set_option maxHeartbeats 4000000 in
set_option maxRecDepth 100000 in
theorem zxK_load {a1 a2 a3 : Int32} (C : ZxC p s m args c cc nL k) (hP : ZxP k u H) (hS : va_S (ZxA k) H0 H locs) (hsz : ls.size = nL) (hR : 2 + 1 ≤ R.frames ∧ 8 + (4 + 11) + 40 * 2 ≤ R.locals) (hw : (rest.map fun v => v.category).sum ≤ 8) (hdg : decode cc pc = .ok (.invokevirtual 143, 3)) (kk : ∀ (u1 : Zxs) (H1 : Heap) (locs1 : List Loc), u1 = zx_load u a1 a2 a3 → ZxP k u1 H1 → va_S (ZxA k) H0 H1 locs1 → W p l e R s m args below meth c H1 locs1 0 0 Q (F0 m (pc + 3) ls (rest))) : W p l e R s m args below meth c H locs 0 0 Q (F0 m pc ls (.int a3 :: .int a2 :: .int a1 :: .ref (zxa_this k) :: rest)) :=
  zx_callV (y := yX0_load) (n := 3) (As := [.int a1, .int a2, .int a3]) C (zxM_load l k C.2.2 u a1 a2 a3 ) wsX0_step_c_load wsX0_step_l_load wsX0_step_i_load wsX0_step_v_load rfl (by decide +kernel) hP hS hsz hR hw rfl hdg (fun H1 locs1 hP1 hS1 => kk _ H1 locs1 rfl hP1 hS1)
end
end
section
def zx_loadNarrow (u : Zxs) : Zxs :=
  if (zx_areBytes (zxg_pc u) 2) = 0 then (
    let u3 := zx_fault u
    u3)
  else (
    let u2 := zx_load u ((zxg_lv u) + (zx_unsignedByte u ((zxg_pc u) + 1))) 2 6
    u2)
set_option maxHeartbeats 4000000 in
set_option maxRecDepth 100000 in
theorem zxM_loadNarrow (l : Launch) (k : Zxk) (Dk : ZxD k) (u : Zxs) : Met l yX0_loadNarrow (.code yX0_loadNarrow cX0_loadNarrow 1 none :: wsX0_step) (zrm 3) (ZxB k [.ref (zxa_this k)] u) (ZxQ k none (zx_loadNarrow u )) 0 0 (ZxA k) := by
  refine zxE_in (by decide) rfl (Nat.le_of_ble_eq_true rfl) Dk ?_
  intro p e s m below meth c ls C hr hlk hP hl
  have hx := C.1.1
  have hb := C.1.2.1
  have hl : lv_has ls 1 [(0, .ref (zxa_this k))] := hl
  have hS : va_S (ZxA k) s.heap s.heap [] := va_S.rf
  refine lv_aload_n hx hb dX0_loadNarrow_0 rfl (lv_at hl 0 rfl) ?_
  refine zxG_pc C hP dX0_loadNarrow_1 ?_
  refine lv_iconst (v := 2) hx hb dX0_loadNarrow_4 (by decide) ?_
  refine zxK_areBytes C hl.1 (by decide) (Nat.le_of_ble_eq_true rfl) dX0_loadNarrow_5 ?_
  refine lv_if_ne (tgt := 16) hx hb dX0_loadNarrow_8 (by decide) (fun c1 => ?_) (fun c1 => ?_)
  · refine lv_aload_n hx hb dX0_loadNarrow_16 rfl (lv_at hl 0 rfl) ?_
    refine lv_aload_n hx hb dX0_loadNarrow_17 rfl (lv_at hl 0 rfl) ?_
    refine zxG_lv C hP dX0_loadNarrow_18 ?_
    refine lv_aload_n hx hb dX0_loadNarrow_21 rfl (lv_at hl 0 rfl) ?_
    refine lv_aload_n hx hb dX0_loadNarrow_22 rfl (lv_at hl 0 rfl) ?_
    refine zxG_pc C hP dX0_loadNarrow_23 ?_
    refine lv_iconst (v := 1) hx hb dX0_loadNarrow_26 (by decide) ?_
    refine lv_iadd hx hb dX0_loadNarrow_27 ?_
    refine zxK_unsignedByte C hP hl.1 (by decide) (Nat.le_of_ble_eq_true rfl) (by first | with_reducible assumption | with_reducible exact zx_in (by with_reducible assumption) | with_reducible exact zx_b10 (by with_reducible assumption) | with_reducible exact zx_b21 (by with_reducible assumption) | with_reducible exact zx_b31 (by with_reducible assumption) | with_reducible exact zx_b32 (by with_reducible assumption) | with_reducible exact zx_b42 (by with_reducible assumption) | with_reducible exact zx_b43 (by with_reducible assumption) | with_reducible exact zx_b33 (by with_reducible assumption) | with_reducible exact zx_b40 (by with_reducible assumption) | with_reducible exact zx_b41 (by with_reducible assumption)) dX0_loadNarrow_28 ?_
    refine lv_iadd hx hb dX0_loadNarrow_31 ?_
    refine lv_iconst (v := 2) hx hb dX0_loadNarrow_32 (by decide) ?_
    refine lv_bipush (v := 6) hx hb dX0_loadNarrow_33 (by decide) ?_
    refine zxK_load C hP hS hl.1 (by decide) (Nat.le_of_ble_eq_true rfl) dX0_loadNarrow_35 (fun u2 H locs hu2 hP hS => ?_)
    exact zx_vret C hr hlk hP hS (by subst hu2; exact (if_neg c1).trans (rfl)) dX0_loadNarrow_38
  · refine lv_aload_n hx hb dX0_loadNarrow_11 rfl (lv_at hl 0 rfl) ?_
    refine zxK_fault C hP hS hl.1 (by decide) (Nat.le_of_ble_eq_true rfl) dX0_loadNarrow_12 (fun u3 H locs hu3 hP hS => ?_)
    exact zx_vret C hr hlk hP hS (by subst hu3; exact (if_pos c1).trans (rfl)) dX0_loadNarrow_15
section
variable {p : Program} {l : Launch} {e : Env} {R : Room} {s : State} {m : MethodId} {args : Array Value} {below : List Frame} {meth : Method} {c : Code} {H : Heap} {locs : List Loc} {Q : State → Prop} {cc : ByteArray} {pc nL : Nat} {ls : Array Slot} {rest : List Value} {k : Zxk} {u : Zxs} {H0 : Heap}
set_option maxHeartbeats 4000000 in
set_option maxRecDepth 100000 in
theorem zxK_loadNarrow (C : ZxC p s m args c cc nL k) (hP : ZxP k u H) (hS : va_S (ZxA k) H0 H locs) (hsz : ls.size = nL) (hR : 3 + 1 ≤ R.frames ∧ 8 + (1 + 11) + 40 * 3 ≤ R.locals) (hw : (rest.map fun v => v.category).sum ≤ 8) (hdg : decode cc pc = .ok (.invokevirtual 102, 3)) (kk : ∀ (u1 : Zxs) (H1 : Heap) (locs1 : List Loc), u1 = zx_loadNarrow u  → ZxP k u1 H1 → va_S (ZxA k) H0 H1 locs1 → W p l e R s m args below meth c H1 locs1 0 0 Q (F0 m (pc + 3) ls (rest))) : W p l e R s m args below meth c H locs 0 0 Q (F0 m pc ls (.ref (zxa_this k) :: rest)) :=
  zx_callV (y := yX0_loadNarrow) (n := 0) (As := []) C (zxM_loadNarrow l k C.2.2 u  ) wsX0_step_c_loadNarrow wsX0_step_l_loadNarrow wsX0_step_i_loadNarrow wsX0_step_v_loadNarrow rfl (by decide +kernel) hP hS hsz hR hw rfl hdg (fun H1 locs1 hP1 hS1 => kk _ H1 locs1 rfl hP1 hS1)
end
end
section
def zx_storeNarrow (u : Zxs) : Zxs :=
  if (zx_areBytes (zxg_pc u) 2) = 0 then (
    let u3 := zx_fault u
    u3)
  else (
    let u2 := zx_store u ((zxg_lv u) + (zx_unsignedByte u ((zxg_pc u) + 1))) 2 7
    u2)
set_option maxHeartbeats 4000000 in
set_option maxRecDepth 100000 in
theorem zxM_storeNarrow (l : Launch) (k : Zxk) (Dk : ZxD k) (u : Zxs) : Met l yX0_storeNarrow (.code yX0_storeNarrow cX0_storeNarrow 1 none :: wsX0_step) (zrm 2) (ZxB k [.ref (zxa_this k)] u) (ZxQ k none (zx_storeNarrow u )) 0 0 (ZxA k) := by
  refine zxE_in (by decide) rfl (Nat.le_of_ble_eq_true rfl) Dk ?_
  intro p e s m below meth c ls C hr hlk hP hl
  have hx := C.1.1
  have hb := C.1.2.1
  have hl : lv_has ls 1 [(0, .ref (zxa_this k))] := hl
  have hS : va_S (ZxA k) s.heap s.heap [] := va_S.rf
  refine lv_aload_n hx hb dX0_storeNarrow_0 rfl (lv_at hl 0 rfl) ?_
  refine zxG_pc C hP dX0_storeNarrow_1 ?_
  refine lv_iconst (v := 2) hx hb dX0_storeNarrow_4 (by decide) ?_
  refine zxK_areBytes C hl.1 (by decide) (Nat.le_of_ble_eq_true rfl) dX0_storeNarrow_5 ?_
  refine lv_if_ne (tgt := 16) hx hb dX0_storeNarrow_8 (by decide) (fun c1 => ?_) (fun c1 => ?_)
  · refine lv_aload_n hx hb dX0_storeNarrow_16 rfl (lv_at hl 0 rfl) ?_
    refine lv_aload_n hx hb dX0_storeNarrow_17 rfl (lv_at hl 0 rfl) ?_
    refine zxG_lv C hP dX0_storeNarrow_18 ?_
    refine lv_aload_n hx hb dX0_storeNarrow_21 rfl (lv_at hl 0 rfl) ?_
    refine lv_aload_n hx hb dX0_storeNarrow_22 rfl (lv_at hl 0 rfl) ?_
    refine zxG_pc C hP dX0_storeNarrow_23 ?_
    refine lv_iconst (v := 1) hx hb dX0_storeNarrow_26 (by decide) ?_
    refine lv_iadd hx hb dX0_storeNarrow_27 ?_
    refine zxK_unsignedByte C hP hl.1 (by decide) (Nat.le_of_ble_eq_true rfl) (by first | with_reducible assumption | with_reducible exact zx_in (by with_reducible assumption) | with_reducible exact zx_b10 (by with_reducible assumption) | with_reducible exact zx_b21 (by with_reducible assumption) | with_reducible exact zx_b31 (by with_reducible assumption) | with_reducible exact zx_b32 (by with_reducible assumption) | with_reducible exact zx_b42 (by with_reducible assumption) | with_reducible exact zx_b43 (by with_reducible assumption) | with_reducible exact zx_b33 (by with_reducible assumption) | with_reducible exact zx_b40 (by with_reducible assumption) | with_reducible exact zx_b41 (by with_reducible assumption)) dX0_storeNarrow_28 ?_
    refine lv_iadd hx hb dX0_storeNarrow_31 ?_
    refine lv_iconst (v := 2) hx hb dX0_storeNarrow_32 (by decide) ?_
    refine lv_bipush (v := 7) hx hb dX0_storeNarrow_33 (by decide) ?_
    refine zxK_store C hP hS hl.1 (by decide) (Nat.le_of_ble_eq_true rfl) dX0_storeNarrow_35 (fun u2 H locs hu2 hP hS => ?_)
    exact zx_vret C hr hlk hP hS (by subst hu2; exact (if_neg c1).trans (rfl)) dX0_storeNarrow_38
  · refine lv_aload_n hx hb dX0_storeNarrow_11 rfl (lv_at hl 0 rfl) ?_
    refine zxK_fault C hP hS hl.1 (by decide) (Nat.le_of_ble_eq_true rfl) dX0_storeNarrow_12 (fun u3 H locs hu3 hP hS => ?_)
    exact zx_vret C hr hlk hP hS (by subst hu3; exact (if_pos c1).trans (rfl)) dX0_storeNarrow_15
section
variable {p : Program} {l : Launch} {e : Env} {R : Room} {s : State} {m : MethodId} {args : Array Value} {below : List Frame} {meth : Method} {c : Code} {H : Heap} {locs : List Loc} {Q : State → Prop} {cc : ByteArray} {pc nL : Nat} {ls : Array Slot} {rest : List Value} {k : Zxk} {u : Zxs} {H0 : Heap}
set_option maxHeartbeats 4000000 in
set_option maxRecDepth 100000 in
theorem zxK_storeNarrow (C : ZxC p s m args c cc nL k) (hP : ZxP k u H) (hS : va_S (ZxA k) H0 H locs) (hsz : ls.size = nL) (hR : 2 + 1 ≤ R.frames ∧ 8 + (1 + 11) + 40 * 2 ≤ R.locals) (hw : (rest.map fun v => v.category).sum ≤ 8) (hdg : decode cc pc = .ok (.invokevirtual 105, 3)) (kk : ∀ (u1 : Zxs) (H1 : Heap) (locs1 : List Loc), u1 = zx_storeNarrow u  → ZxP k u1 H1 → va_S (ZxA k) H0 H1 locs1 → W p l e R s m args below meth c H1 locs1 0 0 Q (F0 m (pc + 3) ls (rest))) : W p l e R s m args below meth c H locs 0 0 Q (F0 m pc ls (.ref (zxa_this k) :: rest)) :=
  zx_callV (y := yX0_storeNarrow) (n := 0) (As := []) C (zxM_storeNarrow l k C.2.2 u  ) wsX0_step_c_storeNarrow wsX0_step_l_storeNarrow wsX0_step_i_storeNarrow wsX0_step_v_storeNarrow rfl (by decide +kernel) hP hS hsz hR hw rfl hdg (fun H1 locs1 hP1 hS1 => kk _ H1 locs1 rfl hP1 hS1)
end
end
section
def zx_wide (u : Zxs) : Zxs :=
  if (zx_areBytes (zxg_pc u) 2) = 0 then (
    let u15 := zx_fault u
    u15)
  else (
    if (zx_unsignedByte u ((zxg_pc u) + 1)) = 21 then (
      if (zx_areBytes (zxg_pc u) 4) = 0 then (
        let u7 := zx_fault u
        u7)
      else (
        if (zx_unsignedByte u ((zxg_pc u) + 1)) = 21 then (
          let u6 := zx_load u ((zxg_lv u) + (zx_unsignedPair u ((zxg_pc u) + 2))) 4 10
          u6)
        else (
          let u5 := zx_store u ((zxg_lv u) + (zx_unsignedPair u ((zxg_pc u) + 2))) 4 11
          u5)))
    else (
      if (zx_unsignedByte u ((zxg_pc u) + 1)) = 54 then (
        if (zx_areBytes (zxg_pc u) 4) = 0 then (
          let u13 := zx_fault u
          u13)
        else (
          if (zx_unsignedByte u ((zxg_pc u) + 1)) = 21 then (
            let u12 := zx_load u ((zxg_lv u) + (zx_unsignedPair u ((zxg_pc u) + 2))) 4 10
            u12)
          else (
            let u11 := zx_store u ((zxg_lv u) + (zx_unsignedPair u ((zxg_pc u) + 2))) 4 11
            u11)))
      else (
        let u14 := zx_trap u
        u14)))
set_option maxHeartbeats 4000000 in
set_option maxRecDepth 100000 in
theorem zxM_wide (l : Launch) (k : Zxk) (Dk : ZxD k) (u : Zxs) : Met l yX0_wide (.code yX0_wide cX0_wide 3 none :: wsX0_step) (zrm 3) (ZxB k [.ref (zxa_this k)] u) (ZxQ k none (zx_wide u )) 0 0 (ZxA k) := by
  refine zxE_in (by decide) rfl (Nat.le_of_ble_eq_true rfl) Dk ?_
  intro p e s m below meth c ls C hr hlk hP hl
  have hx := C.1.1
  have hb := C.1.2.1
  have hl : lv_has ls 3 [(0, .ref (zxa_this k))] := hl
  have hS : va_S (ZxA k) s.heap s.heap [] := va_S.rf
  refine lv_aload_n hx hb dX0_wide_0 rfl (lv_at hl 0 rfl) ?_
  refine zxG_pc C hP dX0_wide_1 ?_
  refine lv_iconst (v := 2) hx hb dX0_wide_4 (by decide) ?_
  refine zxK_areBytes C hl.1 (by decide) (Nat.le_of_ble_eq_true rfl) dX0_wide_5 ?_
  refine lv_if_ne (tgt := 16) hx hb dX0_wide_8 (by decide) (fun c1 => ?_) (fun c1 => ?_)
  · refine lv_aload_n hx hb dX0_wide_16 rfl (lv_at hl 0 rfl) ?_
    refine lv_aload_n hx hb dX0_wide_17 rfl (lv_at hl 0 rfl) ?_
    refine zxG_pc C hP dX0_wide_18 ?_
    refine lv_iconst (v := 1) hx hb dX0_wide_21 (by decide) ?_
    refine lv_iadd hx hb dX0_wide_22 ?_
    refine zxK_unsignedByte C hP hl.1 (by decide) (Nat.le_of_ble_eq_true rfl) (by first | with_reducible assumption | with_reducible exact zx_in (by with_reducible assumption) | with_reducible exact zx_b10 (by with_reducible assumption) | with_reducible exact zx_b21 (by with_reducible assumption) | with_reducible exact zx_b31 (by with_reducible assumption) | with_reducible exact zx_b32 (by with_reducible assumption) | with_reducible exact zx_b42 (by with_reducible assumption) | with_reducible exact zx_b43 (by with_reducible assumption) | with_reducible exact zx_b33 (by with_reducible assumption) | with_reducible exact zx_b40 (by with_reducible assumption) | with_reducible exact zx_b41 (by with_reducible assumption)) dX0_wide_23 ?_
    refine lv_istore_n (lv' := [(1, .int (zx_unsignedByte u ((zxg_pc u) + 1))), (0, .ref (zxa_this k))]) hx hb dX0_wide_26 rfl hl (by decide) rfl (fun ls hl => ?_)
    refine lv_iload_n hx hb dX0_wide_27 rfl (lv_at hl 0 rfl) ?_
    refine lv_bipush (v := 21) hx hb dX0_wide_28 (by decide) ?_
    refine lv_icmp_eq (tgt := 44) hx hb dX0_wide_30 (by decide) (fun c2 => ?_) (fun c2 => ?_)
    · refine lv_aload_n hx hb dX0_wide_44 rfl (lv_at hl 1 rfl) ?_
      refine zxG_pc C hP dX0_wide_45 ?_
      refine lv_iconst (v := 4) hx hb dX0_wide_48 (by decide) ?_
      refine zxK_areBytes C hl.1 (by decide) (Nat.le_of_ble_eq_true rfl) dX0_wide_49 ?_
      refine lv_if_ne (tgt := 60) hx hb dX0_wide_52 (by decide) (fun c3 => ?_) (fun c3 => ?_)
      · refine lv_aload_n hx hb dX0_wide_60 rfl (lv_at hl 1 rfl) ?_
        refine zxG_lv C hP dX0_wide_61 ?_
        refine lv_aload_n hx hb dX0_wide_64 rfl (lv_at hl 1 rfl) ?_
        refine lv_aload_n hx hb dX0_wide_65 rfl (lv_at hl 1 rfl) ?_
        refine zxG_pc C hP dX0_wide_66 ?_
        refine lv_iconst (v := 2) hx hb dX0_wide_69 (by decide) ?_
        refine lv_iadd hx hb dX0_wide_70 ?_
        refine zxK_unsignedPair C hP hl.1 (by decide) (Nat.le_of_ble_eq_true rfl) (by first | with_reducible assumption | with_reducible exact zx_in (by with_reducible assumption) | with_reducible exact zx_b10 (by with_reducible assumption) | with_reducible exact zx_b21 (by with_reducible assumption) | with_reducible exact zx_b31 (by with_reducible assumption) | with_reducible exact zx_b32 (by with_reducible assumption) | with_reducible exact zx_b42 (by with_reducible assumption) | with_reducible exact zx_b43 (by with_reducible assumption) | with_reducible exact zx_b33 (by with_reducible assumption) | with_reducible exact zx_b40 (by with_reducible assumption) | with_reducible exact zx_b41 (by with_reducible assumption)) (by first | with_reducible assumption | with_reducible exact zx_in (by with_reducible assumption) | with_reducible exact zx_b10 (by with_reducible assumption) | with_reducible exact zx_b21 (by with_reducible assumption) | with_reducible exact zx_b31 (by with_reducible assumption) | with_reducible exact zx_b32 (by with_reducible assumption) | with_reducible exact zx_b42 (by with_reducible assumption) | with_reducible exact zx_b43 (by with_reducible assumption) | with_reducible exact zx_b33 (by with_reducible assumption) | with_reducible exact zx_b40 (by with_reducible assumption) | with_reducible exact zx_b41 (by with_reducible assumption)) dX0_wide_71 ?_
        refine lv_iadd hx hb dX0_wide_74 ?_
        refine lv_istore_n (lv' := [(2, .int ((zxg_lv u) + (zx_unsignedPair u ((zxg_pc u) + 2)))), (1, .int (zx_unsignedByte u ((zxg_pc u) + 1))), (0, .ref (zxa_this k))]) hx hb dX0_wide_75 rfl hl (by decide) rfl (fun ls hl => ?_)
        refine lv_iload_n hx hb dX0_wide_76 rfl (lv_at hl 1 rfl) ?_
        refine lv_bipush (v := 21) hx hb dX0_wide_77 (by decide) ?_
        refine lv_icmp_ne (tgt := 93) hx hb dX0_wide_79 (by decide) (fun c4 => ?_) (fun c4 => ?_)
        · refine lv_aload_n hx hb dX0_wide_93 rfl (lv_at hl 2 rfl) ?_
          refine lv_iload_n hx hb dX0_wide_94 rfl (lv_at hl 0 rfl) ?_
          refine lv_iconst (v := 4) hx hb dX0_wide_95 (by decide) ?_
          refine lv_bipush (v := 11) hx hb dX0_wide_96 (by decide) ?_
          refine zxK_store C hP hS hl.1 (by decide) (Nat.le_of_ble_eq_true rfl) dX0_wide_98 (fun u5 H locs hu5 hP hS => ?_)
          exact zx_vret C hr hlk hP hS (by subst hu5; exact (if_neg c1).trans ((if_pos c2).trans ((if_neg c3).trans ((if_neg c4).trans (rfl))))) dX0_wide_101
        · refine lv_aload_n hx hb dX0_wide_82 rfl (lv_at hl 2 rfl) ?_
          refine lv_iload_n hx hb dX0_wide_83 rfl (lv_at hl 0 rfl) ?_
          refine lv_iconst (v := 4) hx hb dX0_wide_84 (by decide) ?_
          refine lv_bipush (v := 10) hx hb dX0_wide_85 (by decide) ?_
          refine zxK_load C hP hS hl.1 (by decide) (Nat.le_of_ble_eq_true rfl) dX0_wide_87 (fun u6 H locs hu6 hP hS => ?_)
          refine lv_goto (tgt := 101) hx hb dX0_wide_90 (by decide) ?_
          exact zx_vret C hr hlk hP hS (by subst hu6; exact (if_neg c1).trans ((if_pos c2).trans ((if_neg c3).trans ((if_pos c4).trans (rfl))))) dX0_wide_101
      · refine lv_aload_n hx hb dX0_wide_55 rfl (lv_at hl 1 rfl) ?_
        refine zxK_fault C hP hS hl.1 (by decide) (Nat.le_of_ble_eq_true rfl) dX0_wide_56 (fun u7 H locs hu7 hP hS => ?_)
        exact zx_vret C hr hlk hP hS (by subst hu7; exact (if_neg c1).trans ((if_pos c2).trans ((if_pos c3).trans (rfl)))) dX0_wide_59
    · refine lv_iload_n hx hb dX0_wide_33 rfl (lv_at hl 0 rfl) ?_
      refine lv_bipush (v := 54) hx hb dX0_wide_34 (by decide) ?_
      refine lv_icmp_eq (tgt := 44) hx hb dX0_wide_36 (by decide) (fun c8 => ?_) (fun c8 => ?_)
      · refine lv_aload_n hx hb dX0_wide_44 rfl (lv_at hl 1 rfl) ?_
        refine zxG_pc C hP dX0_wide_45 ?_
        refine lv_iconst (v := 4) hx hb dX0_wide_48 (by decide) ?_
        refine zxK_areBytes C hl.1 (by decide) (Nat.le_of_ble_eq_true rfl) dX0_wide_49 ?_
        refine lv_if_ne (tgt := 60) hx hb dX0_wide_52 (by decide) (fun c9 => ?_) (fun c9 => ?_)
        · refine lv_aload_n hx hb dX0_wide_60 rfl (lv_at hl 1 rfl) ?_
          refine zxG_lv C hP dX0_wide_61 ?_
          refine lv_aload_n hx hb dX0_wide_64 rfl (lv_at hl 1 rfl) ?_
          refine lv_aload_n hx hb dX0_wide_65 rfl (lv_at hl 1 rfl) ?_
          refine zxG_pc C hP dX0_wide_66 ?_
          refine lv_iconst (v := 2) hx hb dX0_wide_69 (by decide) ?_
          refine lv_iadd hx hb dX0_wide_70 ?_
          refine zxK_unsignedPair C hP hl.1 (by decide) (Nat.le_of_ble_eq_true rfl) (by first | with_reducible assumption | with_reducible exact zx_in (by with_reducible assumption) | with_reducible exact zx_b10 (by with_reducible assumption) | with_reducible exact zx_b21 (by with_reducible assumption) | with_reducible exact zx_b31 (by with_reducible assumption) | with_reducible exact zx_b32 (by with_reducible assumption) | with_reducible exact zx_b42 (by with_reducible assumption) | with_reducible exact zx_b43 (by with_reducible assumption) | with_reducible exact zx_b33 (by with_reducible assumption) | with_reducible exact zx_b40 (by with_reducible assumption) | with_reducible exact zx_b41 (by with_reducible assumption)) (by first | with_reducible assumption | with_reducible exact zx_in (by with_reducible assumption) | with_reducible exact zx_b10 (by with_reducible assumption) | with_reducible exact zx_b21 (by with_reducible assumption) | with_reducible exact zx_b31 (by with_reducible assumption) | with_reducible exact zx_b32 (by with_reducible assumption) | with_reducible exact zx_b42 (by with_reducible assumption) | with_reducible exact zx_b43 (by with_reducible assumption) | with_reducible exact zx_b33 (by with_reducible assumption) | with_reducible exact zx_b40 (by with_reducible assumption) | with_reducible exact zx_b41 (by with_reducible assumption)) dX0_wide_71 ?_
          refine lv_iadd hx hb dX0_wide_74 ?_
          refine lv_istore_n (lv' := [(2, .int ((zxg_lv u) + (zx_unsignedPair u ((zxg_pc u) + 2)))), (1, .int (zx_unsignedByte u ((zxg_pc u) + 1))), (0, .ref (zxa_this k))]) hx hb dX0_wide_75 rfl hl (by decide) rfl (fun ls hl => ?_)
          refine lv_iload_n hx hb dX0_wide_76 rfl (lv_at hl 1 rfl) ?_
          refine lv_bipush (v := 21) hx hb dX0_wide_77 (by decide) ?_
          refine lv_icmp_ne (tgt := 93) hx hb dX0_wide_79 (by decide) (fun c10 => ?_) (fun c10 => ?_)
          · refine lv_aload_n hx hb dX0_wide_93 rfl (lv_at hl 2 rfl) ?_
            refine lv_iload_n hx hb dX0_wide_94 rfl (lv_at hl 0 rfl) ?_
            refine lv_iconst (v := 4) hx hb dX0_wide_95 (by decide) ?_
            refine lv_bipush (v := 11) hx hb dX0_wide_96 (by decide) ?_
            refine zxK_store C hP hS hl.1 (by decide) (Nat.le_of_ble_eq_true rfl) dX0_wide_98 (fun u11 H locs hu11 hP hS => ?_)
            exact zx_vret C hr hlk hP hS (by subst hu11; exact (if_neg c1).trans ((if_neg c2).trans ((if_pos c8).trans ((if_neg c9).trans ((if_neg c10).trans (rfl)))))) dX0_wide_101
          · refine lv_aload_n hx hb dX0_wide_82 rfl (lv_at hl 2 rfl) ?_
            refine lv_iload_n hx hb dX0_wide_83 rfl (lv_at hl 0 rfl) ?_
            refine lv_iconst (v := 4) hx hb dX0_wide_84 (by decide) ?_
            refine lv_bipush (v := 10) hx hb dX0_wide_85 (by decide) ?_
            refine zxK_load C hP hS hl.1 (by decide) (Nat.le_of_ble_eq_true rfl) dX0_wide_87 (fun u12 H locs hu12 hP hS => ?_)
            refine lv_goto (tgt := 101) hx hb dX0_wide_90 (by decide) ?_
            exact zx_vret C hr hlk hP hS (by subst hu12; exact (if_neg c1).trans ((if_neg c2).trans ((if_pos c8).trans ((if_neg c9).trans ((if_pos c10).trans (rfl)))))) dX0_wide_101
        · refine lv_aload_n hx hb dX0_wide_55 rfl (lv_at hl 1 rfl) ?_
          refine zxK_fault C hP hS hl.1 (by decide) (Nat.le_of_ble_eq_true rfl) dX0_wide_56 (fun u13 H locs hu13 hP hS => ?_)
          exact zx_vret C hr hlk hP hS (by subst hu13; exact (if_neg c1).trans ((if_neg c2).trans ((if_pos c8).trans ((if_pos c9).trans (rfl))))) dX0_wide_59
      · refine lv_aload_n hx hb dX0_wide_39 rfl (lv_at hl 1 rfl) ?_
        refine zxK_trap C hP hS hl.1 (by decide) (Nat.le_of_ble_eq_true rfl) dX0_wide_40 (fun u14 H locs hu14 hP hS => ?_)
        exact zx_vret C hr hlk hP hS (by subst hu14; exact (if_neg c1).trans ((if_neg c2).trans ((if_neg c8).trans (rfl)))) dX0_wide_43
  · refine lv_aload_n hx hb dX0_wide_11 rfl (lv_at hl 0 rfl) ?_
    refine zxK_fault C hP hS hl.1 (by decide) (Nat.le_of_ble_eq_true rfl) dX0_wide_12 (fun u15 H locs hu15 hP hS => ?_)
    exact zx_vret C hr hlk hP hS (by subst hu15; exact (if_pos c1).trans (rfl)) dX0_wide_15
section
variable {p : Program} {l : Launch} {e : Env} {R : Room} {s : State} {m : MethodId} {args : Array Value} {below : List Frame} {meth : Method} {c : Code} {H : Heap} {locs : List Loc} {Q : State → Prop} {cc : ByteArray} {pc nL : Nat} {ls : Array Slot} {rest : List Value} {k : Zxk} {u : Zxs} {H0 : Heap}
set_option maxHeartbeats 4000000 in
set_option maxRecDepth 100000 in
theorem zxK_wide (C : ZxC p s m args c cc nL k) (hP : ZxP k u H) (hS : va_S (ZxA k) H0 H locs) (hsz : ls.size = nL) (hR : 3 + 1 ≤ R.frames ∧ 8 + (3 + 11) + 40 * 3 ≤ R.locals) (hw : (rest.map fun v => v.category).sum ≤ 8) (hdg : decode cc pc = .ok (.invokevirtual 108, 3)) (kk : ∀ (u1 : Zxs) (H1 : Heap) (locs1 : List Loc), u1 = zx_wide u  → ZxP k u1 H1 → va_S (ZxA k) H0 H1 locs1 → W p l e R s m args below meth c H1 locs1 0 0 Q (F0 m (pc + 3) ls (rest))) : W p l e R s m args below meth c H locs 0 0 Q (F0 m pc ls (.ref (zxa_this k) :: rest)) :=
  zx_callV (y := yX0_wide) (n := 0) (As := []) C (zxM_wide l k C.2.2 u  ) wsX0_step_c_wide wsX0_step_l_wide wsX0_step_i_wide wsX0_step_v_wide rfl (by decide +kernel) hP hS hsz hR hw rfl hdg (fun H1 locs1 hP1 hS1 => kk _ H1 locs1 rfl hP1 hS1)
end
end
section
def zx_loadConstant (u : Zxs) : Zxs :=
  if (zx_areBytes (zxg_pc u) 3) = 0 then (
    let u3 := zx_fault u
    u3)
  else (
    let u2 := zx_load u ((zxg_cpp u) + (zx_unsignedPair u ((zxg_pc u) + 1))) 3 8
    u2)
set_option maxHeartbeats 4000000 in
set_option maxRecDepth 100000 in
theorem zxM_loadConstant (l : Launch) (k : Zxk) (Dk : ZxD k) (u : Zxs) : Met l yX0_loadConstant (.code yX0_loadConstant cX0_loadConstant 1 none :: wsX0_step) (zrm 3) (ZxB k [.ref (zxa_this k)] u) (ZxQ k none (zx_loadConstant u )) 0 0 (ZxA k) := by
  refine zxE_in (by decide) rfl (Nat.le_of_ble_eq_true rfl) Dk ?_
  intro p e s m below meth c ls C hr hlk hP hl
  have hx := C.1.1
  have hb := C.1.2.1
  have hl : lv_has ls 1 [(0, .ref (zxa_this k))] := hl
  have hS : va_S (ZxA k) s.heap s.heap [] := va_S.rf
  refine lv_aload_n hx hb dX0_loadConstant_0 rfl (lv_at hl 0 rfl) ?_
  refine zxG_pc C hP dX0_loadConstant_1 ?_
  refine lv_iconst (v := 3) hx hb dX0_loadConstant_4 (by decide) ?_
  refine zxK_areBytes C hl.1 (by decide) (Nat.le_of_ble_eq_true rfl) dX0_loadConstant_5 ?_
  refine lv_if_ne (tgt := 16) hx hb dX0_loadConstant_8 (by decide) (fun c1 => ?_) (fun c1 => ?_)
  · refine lv_aload_n hx hb dX0_loadConstant_16 rfl (lv_at hl 0 rfl) ?_
    refine lv_aload_n hx hb dX0_loadConstant_17 rfl (lv_at hl 0 rfl) ?_
    refine zxG_cpp C hP dX0_loadConstant_18 ?_
    refine lv_aload_n hx hb dX0_loadConstant_21 rfl (lv_at hl 0 rfl) ?_
    refine lv_aload_n hx hb dX0_loadConstant_22 rfl (lv_at hl 0 rfl) ?_
    refine zxG_pc C hP dX0_loadConstant_23 ?_
    refine lv_iconst (v := 1) hx hb dX0_loadConstant_26 (by decide) ?_
    refine lv_iadd hx hb dX0_loadConstant_27 ?_
    refine zxK_unsignedPair C hP hl.1 (by decide) (Nat.le_of_ble_eq_true rfl) (by first | with_reducible assumption | with_reducible exact zx_in (by with_reducible assumption) | with_reducible exact zx_b10 (by with_reducible assumption) | with_reducible exact zx_b21 (by with_reducible assumption) | with_reducible exact zx_b31 (by with_reducible assumption) | with_reducible exact zx_b32 (by with_reducible assumption) | with_reducible exact zx_b42 (by with_reducible assumption) | with_reducible exact zx_b43 (by with_reducible assumption) | with_reducible exact zx_b33 (by with_reducible assumption) | with_reducible exact zx_b40 (by with_reducible assumption) | with_reducible exact zx_b41 (by with_reducible assumption)) (by first | with_reducible assumption | with_reducible exact zx_in (by with_reducible assumption) | with_reducible exact zx_b10 (by with_reducible assumption) | with_reducible exact zx_b21 (by with_reducible assumption) | with_reducible exact zx_b31 (by with_reducible assumption) | with_reducible exact zx_b32 (by with_reducible assumption) | with_reducible exact zx_b42 (by with_reducible assumption) | with_reducible exact zx_b43 (by with_reducible assumption) | with_reducible exact zx_b33 (by with_reducible assumption) | with_reducible exact zx_b40 (by with_reducible assumption) | with_reducible exact zx_b41 (by with_reducible assumption)) dX0_loadConstant_28 ?_
    refine lv_iadd hx hb dX0_loadConstant_31 ?_
    refine lv_iconst (v := 3) hx hb dX0_loadConstant_32 (by decide) ?_
    refine lv_bipush (v := 8) hx hb dX0_loadConstant_33 (by decide) ?_
    refine zxK_load C hP hS hl.1 (by decide) (Nat.le_of_ble_eq_true rfl) dX0_loadConstant_35 (fun u2 H locs hu2 hP hS => ?_)
    exact zx_vret C hr hlk hP hS (by subst hu2; exact (if_neg c1).trans (rfl)) dX0_loadConstant_38
  · refine lv_aload_n hx hb dX0_loadConstant_11 rfl (lv_at hl 0 rfl) ?_
    refine zxK_fault C hP hS hl.1 (by decide) (Nat.le_of_ble_eq_true rfl) dX0_loadConstant_12 (fun u3 H locs hu3 hP hS => ?_)
    exact zx_vret C hr hlk hP hS (by subst hu3; exact (if_pos c1).trans (rfl)) dX0_loadConstant_15
section
variable {p : Program} {l : Launch} {e : Env} {R : Room} {s : State} {m : MethodId} {args : Array Value} {below : List Frame} {meth : Method} {c : Code} {H : Heap} {locs : List Loc} {Q : State → Prop} {cc : ByteArray} {pc nL : Nat} {ls : Array Slot} {rest : List Value} {k : Zxk} {u : Zxs} {H0 : Heap}
set_option maxHeartbeats 4000000 in
set_option maxRecDepth 100000 in
theorem zxK_loadConstant (C : ZxC p s m args c cc nL k) (hP : ZxP k u H) (hS : va_S (ZxA k) H0 H locs) (hsz : ls.size = nL) (hR : 3 + 1 ≤ R.frames ∧ 8 + (1 + 11) + 40 * 3 ≤ R.locals) (hw : (rest.map fun v => v.category).sum ≤ 8) (hdg : decode cc pc = .ok (.invokevirtual 111, 3)) (kk : ∀ (u1 : Zxs) (H1 : Heap) (locs1 : List Loc), u1 = zx_loadConstant u  → ZxP k u1 H1 → va_S (ZxA k) H0 H1 locs1 → W p l e R s m args below meth c H1 locs1 0 0 Q (F0 m (pc + 3) ls (rest))) : W p l e R s m args below meth c H locs 0 0 Q (F0 m pc ls (.ref (zxa_this k) :: rest)) :=
  zx_callV (y := yX0_loadConstant) (n := 0) (As := []) C (zxM_loadConstant l k C.2.2 u  ) wsX0_step_c_loadConstant wsX0_step_l_loadConstant wsX0_step_i_loadConstant wsX0_step_v_loadConstant rfl (by decide +kernel) hP hS hsz hR hw rfl hdg (fun H1 locs1 hP1 hS1 => kk _ H1 locs1 rfl hP1 hS1)
end
end
section
def zx_pushByte (u : Zxs) : Zxs :=
  if (zx_areBytes (zxg_pc u) 2) = 0 then (
    let u3 := zx_fault u
    u3)
  else (
    let u2 := zx_push u (zxg_bytes u ((zxg_pc u) + 1).toNatClampNeg) 2 4
    u2)
set_option maxHeartbeats 4000000 in
set_option maxRecDepth 100000 in
theorem zxM_pushByte (l : Launch) (k : Zxk) (Dk : ZxD k) (u : Zxs) : Met l yX0_pushByte (.code yX0_pushByte cX0_pushByte 1 none :: wsX0_step) (zrm 2) (ZxB k [.ref (zxa_this k)] u) (ZxQ k none (zx_pushByte u )) 0 0 (ZxA k) := by
  refine zxE_in (by decide) rfl (Nat.le_of_ble_eq_true rfl) Dk ?_
  intro p e s m below meth c ls C hr hlk hP hl
  have hx := C.1.1
  have hb := C.1.2.1
  have hl : lv_has ls 1 [(0, .ref (zxa_this k))] := hl
  have hS : va_S (ZxA k) s.heap s.heap [] := va_S.rf
  refine lv_aload_n hx hb dX0_pushByte_0 rfl (lv_at hl 0 rfl) ?_
  refine zxG_pc C hP dX0_pushByte_1 ?_
  refine lv_iconst (v := 2) hx hb dX0_pushByte_4 (by decide) ?_
  refine zxK_areBytes C hl.1 (by decide) (Nat.le_of_ble_eq_true rfl) dX0_pushByte_5 ?_
  refine lv_if_ne (tgt := 16) hx hb dX0_pushByte_8 (by decide) (fun c1 => ?_) (fun c1 => ?_)
  · refine lv_aload_n hx hb dX0_pushByte_16 rfl (lv_at hl 0 rfl) ?_
    refine lv_aload_n hx hb dX0_pushByte_17 rfl (lv_at hl 0 rfl) ?_
    refine zxG_bytes C hP dX0_pushByte_18 ?_
    refine lv_aload_n hx hb dX0_pushByte_21 rfl (lv_at hl 0 rfl) ?_
    refine zxG_pc C hP dX0_pushByte_22 ?_
    refine lv_iconst (v := 1) hx hb dX0_pushByte_25 (by decide) ?_
    refine lv_iadd hx hb dX0_pushByte_26 ?_
    refine zxL_bytes C hP (by first | with_reducible assumption | with_reducible exact zx_in (by with_reducible assumption) | with_reducible exact zx_b10 (by with_reducible assumption) | with_reducible exact zx_b21 (by with_reducible assumption) | with_reducible exact zx_b31 (by with_reducible assumption) | with_reducible exact zx_b32 (by with_reducible assumption) | with_reducible exact zx_b42 (by with_reducible assumption) | with_reducible exact zx_b43 (by with_reducible assumption) | with_reducible exact zx_b33 (by with_reducible assumption) | with_reducible exact zx_b40 (by with_reducible assumption) | with_reducible exact zx_b41 (by with_reducible assumption)) dX0_pushByte_27 ?_
    refine lv_iconst (v := 2) hx hb dX0_pushByte_28 (by decide) ?_
    refine lv_iconst (v := 4) hx hb dX0_pushByte_29 (by decide) ?_
    refine zxK_push C hP hS hl.1 (by decide) (Nat.le_of_ble_eq_true rfl) dX0_pushByte_30 (fun u2 H locs hu2 hP hS => ?_)
    exact zx_vret C hr hlk hP hS (by subst hu2; exact (if_neg c1).trans (rfl)) dX0_pushByte_33
  · refine lv_aload_n hx hb dX0_pushByte_11 rfl (lv_at hl 0 rfl) ?_
    refine zxK_fault C hP hS hl.1 (by decide) (Nat.le_of_ble_eq_true rfl) dX0_pushByte_12 (fun u3 H locs hu3 hP hS => ?_)
    exact zx_vret C hr hlk hP hS (by subst hu3; exact (if_pos c1).trans (rfl)) dX0_pushByte_15
section
variable {p : Program} {l : Launch} {e : Env} {R : Room} {s : State} {m : MethodId} {args : Array Value} {below : List Frame} {meth : Method} {c : Code} {H : Heap} {locs : List Loc} {Q : State → Prop} {cc : ByteArray} {pc nL : Nat} {ls : Array Slot} {rest : List Value} {k : Zxk} {u : Zxs} {H0 : Heap}
set_option maxHeartbeats 4000000 in
set_option maxRecDepth 100000 in
theorem zxK_pushByte (C : ZxC p s m args c cc nL k) (hP : ZxP k u H) (hS : va_S (ZxA k) H0 H locs) (hsz : ls.size = nL) (hR : 2 + 1 ≤ R.frames ∧ 8 + (1 + 11) + 40 * 2 ≤ R.locals) (hw : (rest.map fun v => v.category).sum ≤ 8) (hdg : decode cc pc = .ok (.invokevirtual 99, 3)) (kk : ∀ (u1 : Zxs) (H1 : Heap) (locs1 : List Loc), u1 = zx_pushByte u  → ZxP k u1 H1 → va_S (ZxA k) H0 H1 locs1 → W p l e R s m args below meth c H1 locs1 0 0 Q (F0 m (pc + 3) ls (rest))) : W p l e R s m args below meth c H locs 0 0 Q (F0 m pc ls (.ref (zxa_this k) :: rest)) :=
  zx_callV (y := yX0_pushByte) (n := 0) (As := []) C (zxM_pushByte l k C.2.2 u  ) wsX0_step_c_pushByte wsX0_step_l_pushByte wsX0_step_i_pushByte wsX0_step_v_pushByte rfl (by decide +kernel) hP hS hsz hR hw rfl hdg (fun H1 locs1 hP1 hS1 => kk _ H1 locs1 rfl hP1 hS1)
end
end
section
def zx_increase (u : Zxs) : Zxs :=
  if (zx_areBytes (zxg_pc u) 3) = 0 then (
    let u6 := zx_fault u
    u6)
  else (
    if (zx_isWord ((zxg_lv u) + (zx_unsignedByte u ((zxg_pc u) + 1)))) = 0 then (
      let u5 := zx_fault u
      u5)
    else (
      let u3 := zxs_words u (upd (zxg_words u) ((zxg_lv u) + (zx_unsignedByte u ((zxg_pc u) + 1))).toNatClampNeg ((zxg_words u ((zxg_lv u) + (zx_unsignedByte u ((zxg_pc u) + 1))).toNatClampNeg) + (zxg_bytes u ((zxg_pc u) + 2).toNatClampNeg)))
      let u4 := zx_finish u3 ((zxg_pc u3) + 3) 7
      u4))
set_option maxHeartbeats 4000000 in
set_option maxRecDepth 100000 in
theorem zxM_increase (l : Launch) (k : Zxk) (Dk : ZxD k) (u : Zxs) : Met l yX0_increase (.code yX0_increase cX0_increase 2 none :: wsX0_step) (zrm 1) (ZxB k [.ref (zxa_this k)] u) (ZxQ k none (zx_increase u )) 0 0 (ZxA k) := by
  refine zxE_in (by decide) rfl (Nat.le_of_ble_eq_true rfl) Dk ?_
  intro p e s m below meth c ls C hr hlk hP hl
  have hx := C.1.1
  have hb := C.1.2.1
  have hl : lv_has ls 2 [(0, .ref (zxa_this k))] := hl
  have hS : va_S (ZxA k) s.heap s.heap [] := va_S.rf
  refine lv_aload_n hx hb dX0_increase_0 rfl (lv_at hl 0 rfl) ?_
  refine zxG_pc C hP dX0_increase_1 ?_
  refine lv_iconst (v := 3) hx hb dX0_increase_4 (by decide) ?_
  refine zxK_areBytes C hl.1 (by decide) (Nat.le_of_ble_eq_true rfl) dX0_increase_5 ?_
  refine lv_if_ne (tgt := 16) hx hb dX0_increase_8 (by decide) (fun c1 => ?_) (fun c1 => ?_)
  · refine lv_aload_n hx hb dX0_increase_16 rfl (lv_at hl 0 rfl) ?_
    refine zxG_lv C hP dX0_increase_17 ?_
    refine lv_aload_n hx hb dX0_increase_20 rfl (lv_at hl 0 rfl) ?_
    refine lv_aload_n hx hb dX0_increase_21 rfl (lv_at hl 0 rfl) ?_
    refine zxG_pc C hP dX0_increase_22 ?_
    refine lv_iconst (v := 1) hx hb dX0_increase_25 (by decide) ?_
    refine lv_iadd hx hb dX0_increase_26 ?_
    refine zxK_unsignedByte C hP hl.1 (by decide) (Nat.le_of_ble_eq_true rfl) (by first | with_reducible assumption | with_reducible exact zx_in (by with_reducible assumption) | with_reducible exact zx_b10 (by with_reducible assumption) | with_reducible exact zx_b21 (by with_reducible assumption) | with_reducible exact zx_b31 (by with_reducible assumption) | with_reducible exact zx_b32 (by with_reducible assumption) | with_reducible exact zx_b42 (by with_reducible assumption) | with_reducible exact zx_b43 (by with_reducible assumption) | with_reducible exact zx_b33 (by with_reducible assumption) | with_reducible exact zx_b40 (by with_reducible assumption) | with_reducible exact zx_b41 (by with_reducible assumption)) dX0_increase_27 ?_
    refine lv_iadd hx hb dX0_increase_30 ?_
    refine lv_istore_n (lv' := [(1, .int ((zxg_lv u) + (zx_unsignedByte u ((zxg_pc u) + 1)))), (0, .ref (zxa_this k))]) hx hb dX0_increase_31 rfl hl (by decide) rfl (fun ls hl => ?_)
    refine lv_iload_n hx hb dX0_increase_32 rfl (lv_at hl 0 rfl) ?_
    refine zxK_isWord C hl.1 (by decide) (Nat.le_of_ble_eq_true rfl) dX0_increase_33 ?_
    refine lv_if_ne (tgt := 44) hx hb dX0_increase_36 (by decide) (fun c2 => ?_) (fun c2 => ?_)
    · refine lv_aload_n hx hb dX0_increase_44 rfl (lv_at hl 1 rfl) ?_
      refine zxG_words C hP dX0_increase_45 ?_
      refine lv_iload_n hx hb dX0_increase_48 rfl (lv_at hl 0 rfl) ?_
      refine lv_dup2_11 hx hb dX0_increase_49 rfl rfl ?_
      refine zxL_words C hP (by first | with_reducible assumption | with_reducible exact zx_in (by with_reducible assumption) | with_reducible exact zx_b10 (by with_reducible assumption) | with_reducible exact zx_b21 (by with_reducible assumption) | with_reducible exact zx_b31 (by with_reducible assumption) | with_reducible exact zx_b32 (by with_reducible assumption) | with_reducible exact zx_b42 (by with_reducible assumption) | with_reducible exact zx_b43 (by with_reducible assumption) | with_reducible exact zx_b33 (by with_reducible assumption) | with_reducible exact zx_b40 (by with_reducible assumption) | with_reducible exact zx_b41 (by with_reducible assumption)) dX0_increase_50 ?_
      refine lv_aload_n hx hb dX0_increase_51 rfl (lv_at hl 1 rfl) ?_
      refine zxG_bytes C hP dX0_increase_52 ?_
      refine lv_aload_n hx hb dX0_increase_55 rfl (lv_at hl 1 rfl) ?_
      refine zxG_pc C hP dX0_increase_56 ?_
      refine lv_iconst (v := 2) hx hb dX0_increase_59 (by decide) ?_
      refine lv_iadd hx hb dX0_increase_60 ?_
      refine zxL_bytes C hP (by first | with_reducible assumption | with_reducible exact zx_in (by with_reducible assumption) | with_reducible exact zx_b10 (by with_reducible assumption) | with_reducible exact zx_b21 (by with_reducible assumption) | with_reducible exact zx_b31 (by with_reducible assumption) | with_reducible exact zx_b32 (by with_reducible assumption) | with_reducible exact zx_b42 (by with_reducible assumption) | with_reducible exact zx_b43 (by with_reducible assumption) | with_reducible exact zx_b33 (by with_reducible assumption) | with_reducible exact zx_b40 (by with_reducible assumption) | with_reducible exact zx_b41 (by with_reducible assumption)) dX0_increase_61 ?_
      refine lv_iadd hx hb dX0_increase_62 ?_
      refine zxS_words C hP hS (by first | with_reducible assumption | with_reducible exact zx_in (by with_reducible assumption) | with_reducible exact zx_b10 (by with_reducible assumption) | with_reducible exact zx_b21 (by with_reducible assumption) | with_reducible exact zx_b31 (by with_reducible assumption) | with_reducible exact zx_b32 (by with_reducible assumption) | with_reducible exact zx_b42 (by with_reducible assumption) | with_reducible exact zx_b43 (by with_reducible assumption) | with_reducible exact zx_b33 (by with_reducible assumption) | with_reducible exact zx_b40 (by with_reducible assumption) | with_reducible exact zx_b41 (by with_reducible assumption)) dX0_increase_63 (fun u3 H locs hu3 hP hS => ?_)
      refine lv_aload_n hx hb dX0_increase_64 rfl (lv_at hl 1 rfl) ?_
      refine lv_aload_n hx hb dX0_increase_65 rfl (lv_at hl 1 rfl) ?_
      refine zxG_pc C hP dX0_increase_66 ?_
      refine lv_iconst (v := 3) hx hb dX0_increase_69 (by decide) ?_
      refine lv_iadd hx hb dX0_increase_70 ?_
      refine lv_bipush (v := 7) hx hb dX0_increase_71 (by decide) ?_
      refine zxK_finish C hP hS hl.1 (by decide) (Nat.le_of_ble_eq_true rfl) dX0_increase_73 (fun u4 H locs hu4 hP hS => ?_)
      exact zx_vret C hr hlk hP hS (by subst hu3 hu4; exact (if_neg c1).trans ((if_neg c2).trans (rfl))) dX0_increase_76
    · refine lv_aload_n hx hb dX0_increase_39 rfl (lv_at hl 1 rfl) ?_
      refine zxK_fault C hP hS hl.1 (by decide) (Nat.le_of_ble_eq_true rfl) dX0_increase_40 (fun u5 H locs hu5 hP hS => ?_)
      exact zx_vret C hr hlk hP hS (by subst hu5; exact (if_neg c1).trans ((if_pos c2).trans (rfl))) dX0_increase_43
  · refine lv_aload_n hx hb dX0_increase_11 rfl (lv_at hl 0 rfl) ?_
    refine zxK_fault C hP hS hl.1 (by decide) (Nat.le_of_ble_eq_true rfl) dX0_increase_12 (fun u6 H locs hu6 hP hS => ?_)
    exact zx_vret C hr hlk hP hS (by subst hu6; exact (if_pos c1).trans (rfl)) dX0_increase_15
section
variable {p : Program} {l : Launch} {e : Env} {R : Room} {s : State} {m : MethodId} {args : Array Value} {below : List Frame} {meth : Method} {c : Code} {H : Heap} {locs : List Loc} {Q : State → Prop} {cc : ByteArray} {pc nL : Nat} {ls : Array Slot} {rest : List Value} {k : Zxk} {u : Zxs} {H0 : Heap}
set_option maxHeartbeats 4000000 in
set_option maxRecDepth 100000 in
theorem zxK_increase (C : ZxC p s m args c cc nL k) (hP : ZxP k u H) (hS : va_S (ZxA k) H0 H locs) (hsz : ls.size = nL) (hR : 1 + 1 ≤ R.frames ∧ 8 + (2 + 11) + 40 * 1 ≤ R.locals) (hw : (rest.map fun v => v.category).sum ≤ 8) (hdg : decode cc pc = .ok (.invokevirtual 114, 3)) (kk : ∀ (u1 : Zxs) (H1 : Heap) (locs1 : List Loc), u1 = zx_increase u  → ZxP k u1 H1 → va_S (ZxA k) H0 H1 locs1 → W p l e R s m args below meth c H1 locs1 0 0 Q (F0 m (pc + 3) ls (rest))) : W p l e R s m args below meth c H locs 0 0 Q (F0 m pc ls (.ref (zxa_this k) :: rest)) :=
  zx_callV (y := yX0_increase) (n := 0) (As := []) C (zxM_increase l k C.2.2 u  ) wsX0_step_c_increase wsX0_step_l_increase wsX0_step_i_increase wsX0_step_v_increase rfl (by decide +kernel) hP hS hsz hR hw rfl hdg (fun H1 locs1 hP1 hS1 => kk _ H1 locs1 rfl hP1 hS1)
end
end
section
def zx_enter (u : Zxs) : Zxs :=
  if (zx_areBytes (zxg_pc u) 3) = 0 then (
    let u19 := zx_fault u
    u19)
  else (
    if (zx_isWord ((zxg_cpp u) + (zx_unsignedPair u ((zxg_pc u) + 1)))) = 0 then (
      let u3 := zx_fault u
      u3)
    else (
      if (zx_areBytes (zxg_words u ((zxg_cpp u) + (zx_unsignedPair u ((zxg_pc u) + 1))).toNatClampNeg) 4) = 0 then (
        let u18 := zx_fault u
        u18)
      else (
        if (zx_isWord (((zxg_sp u) - (zx_unsignedPair u (zxg_words u ((zxg_cpp u) + (zx_unsignedPair u ((zxg_pc u) + 1))).toNatClampNeg))) + 1)) = 0 then (
          let u6 := zx_fault u
          u6)
        else (
          if (zx_isWord (((zxg_sp u) + (zx_unsignedPair u ((zxg_words u ((zxg_cpp u) + (zx_unsignedPair u ((zxg_pc u) + 1))).toNatClampNeg) + 2))) + 1)) = 0 then (
            let u8 := zx_fault u
            u8)
          else (
            if (zx_isWord ((((zxg_sp u) + (zx_unsignedPair u ((zxg_words u ((zxg_cpp u) + (zx_unsignedPair u ((zxg_pc u) + 1))).toNatClampNeg) + 2))) + 1) + 1)) = 0 then (
              let u17 := zx_fault u
              u17)
            else (
              let u10 := zxs_words u (upd (zxg_words u) (((zxg_sp u) - (zx_unsignedPair u (zxg_words u ((zxg_cpp u) + (zx_unsignedPair u ((zxg_pc u) + 1))).toNatClampNeg))) + 1).toNatClampNeg (((zxg_sp u) + (zx_unsignedPair u ((zxg_words u ((zxg_cpp u) + (zx_unsignedPair u ((zxg_pc u) + 1))).toNatClampNeg) + 2))) + 1))
              let u11 := zxs_words u10 (upd (zxg_words u10) (((zxg_sp u) + (zx_unsignedPair u ((zxg_words u ((zxg_cpp u) + (zx_unsignedPair u ((zxg_pc u) + 1))).toNatClampNeg) + 2))) + 1).toNatClampNeg ((zxg_pc u10) + 3))
              let u12 := zxs_words u11 (upd (zxg_words u11) ((((zxg_sp u) + (zx_unsignedPair u ((zxg_words u ((zxg_cpp u) + (zx_unsignedPair u ((zxg_pc u) + 1))).toNatClampNeg) + 2))) + 1) + 1).toNatClampNeg (zxg_lv u11))
              let u13 := zxs_sp u12 ((((zxg_sp u) + (zx_unsignedPair u ((zxg_words u ((zxg_cpp u) + (zx_unsignedPair u ((zxg_pc u) + 1))).toNatClampNeg) + 2))) + 1) + 1)
              let u14 := zxs_lv u13 (((zxg_sp u) - (zx_unsignedPair u (zxg_words u ((zxg_cpp u) + (zx_unsignedPair u ((zxg_pc u) + 1))).toNatClampNeg))) + 1)
              let u15 := zxs_top u14 (((zxg_sp u) - (zx_unsignedPair u (zxg_words u ((zxg_cpp u) + (zx_unsignedPair u ((zxg_pc u) + 1))).toNatClampNeg))) + 1)
              let u16 := zx_finish u15 ((zxg_words u ((zxg_cpp u) + (zx_unsignedPair u ((zxg_pc u) + 1))).toNatClampNeg) + 4) 23
              u16))))))
set_option maxHeartbeats 4000000 in
set_option maxRecDepth 100000 in
theorem zxM_enter (l : Launch) (k : Zxk) (Dk : ZxD k) (u : Zxs) : Met l yX0_enter (.code yX0_enter cX0_enter 5 none :: wsX0_step) (zrm 2) (ZxB k [.ref (zxa_this k)] u) (ZxQ k none (zx_enter u )) 0 0 (ZxA k) := by
  refine zxE_in (by decide) rfl (Nat.le_of_ble_eq_true rfl) Dk ?_
  intro p e s m below meth c ls C hr hlk hP hl
  have hx := C.1.1
  have hb := C.1.2.1
  have hl : lv_has ls 5 [(0, .ref (zxa_this k))] := hl
  have hS : va_S (ZxA k) s.heap s.heap [] := va_S.rf
  refine lv_aload_n hx hb dX0_enter_0 rfl (lv_at hl 0 rfl) ?_
  refine zxG_pc C hP dX0_enter_1 ?_
  refine lv_iconst (v := 3) hx hb dX0_enter_4 (by decide) ?_
  refine zxK_areBytes C hl.1 (by decide) (Nat.le_of_ble_eq_true rfl) dX0_enter_5 ?_
  refine lv_if_ne (tgt := 16) hx hb dX0_enter_8 (by decide) (fun c1 => ?_) (fun c1 => ?_)
  · refine lv_aload_n hx hb dX0_enter_16 rfl (lv_at hl 0 rfl) ?_
    refine zxG_cpp C hP dX0_enter_17 ?_
    refine lv_aload_n hx hb dX0_enter_20 rfl (lv_at hl 0 rfl) ?_
    refine lv_aload_n hx hb dX0_enter_21 rfl (lv_at hl 0 rfl) ?_
    refine zxG_pc C hP dX0_enter_22 ?_
    refine lv_iconst (v := 1) hx hb dX0_enter_25 (by decide) ?_
    refine lv_iadd hx hb dX0_enter_26 ?_
    refine zxK_unsignedPair C hP hl.1 (by decide) (Nat.le_of_ble_eq_true rfl) (by first | with_reducible assumption | with_reducible exact zx_in (by with_reducible assumption) | with_reducible exact zx_b10 (by with_reducible assumption) | with_reducible exact zx_b21 (by with_reducible assumption) | with_reducible exact zx_b31 (by with_reducible assumption) | with_reducible exact zx_b32 (by with_reducible assumption) | with_reducible exact zx_b42 (by with_reducible assumption) | with_reducible exact zx_b43 (by with_reducible assumption) | with_reducible exact zx_b33 (by with_reducible assumption) | with_reducible exact zx_b40 (by with_reducible assumption) | with_reducible exact zx_b41 (by with_reducible assumption)) (by first | with_reducible assumption | with_reducible exact zx_in (by with_reducible assumption) | with_reducible exact zx_b10 (by with_reducible assumption) | with_reducible exact zx_b21 (by with_reducible assumption) | with_reducible exact zx_b31 (by with_reducible assumption) | with_reducible exact zx_b32 (by with_reducible assumption) | with_reducible exact zx_b42 (by with_reducible assumption) | with_reducible exact zx_b43 (by with_reducible assumption) | with_reducible exact zx_b33 (by with_reducible assumption) | with_reducible exact zx_b40 (by with_reducible assumption) | with_reducible exact zx_b41 (by with_reducible assumption)) dX0_enter_27 ?_
    refine lv_iadd hx hb dX0_enter_30 ?_
    refine lv_istore_n (lv' := [(1, .int ((zxg_cpp u) + (zx_unsignedPair u ((zxg_pc u) + 1)))), (0, .ref (zxa_this k))]) hx hb dX0_enter_31 rfl hl (by decide) rfl (fun ls hl => ?_)
    refine lv_iload_n hx hb dX0_enter_32 rfl (lv_at hl 0 rfl) ?_
    refine zxK_isWord C hl.1 (by decide) (Nat.le_of_ble_eq_true rfl) dX0_enter_33 ?_
    refine lv_if_eq (tgt := 52) hx hb dX0_enter_36 (by decide) (fun c2 => ?_) (fun c2 => ?_)
    · refine lv_aload_n hx hb dX0_enter_52 rfl (lv_at hl 1 rfl) ?_
      refine zxK_fault C hP hS hl.1 (by decide) (Nat.le_of_ble_eq_true rfl) dX0_enter_53 (fun u3 H locs hu3 hP hS => ?_)
      exact zx_vret C hr hlk hP hS (by subst hu3; exact (if_neg c1).trans ((if_pos c2).trans (rfl))) dX0_enter_56
    · refine lv_aload_n hx hb dX0_enter_39 rfl (lv_at hl 1 rfl) ?_
      refine zxG_words C hP dX0_enter_40 ?_
      refine lv_iload_n hx hb dX0_enter_43 rfl (lv_at hl 0 rfl) ?_
      refine zxL_words C hP (by first | with_reducible assumption | with_reducible exact zx_in (by with_reducible assumption) | with_reducible exact zx_b10 (by with_reducible assumption) | with_reducible exact zx_b21 (by with_reducible assumption) | with_reducible exact zx_b31 (by with_reducible assumption) | with_reducible exact zx_b32 (by with_reducible assumption) | with_reducible exact zx_b42 (by with_reducible assumption) | with_reducible exact zx_b43 (by with_reducible assumption) | with_reducible exact zx_b33 (by with_reducible assumption) | with_reducible exact zx_b40 (by with_reducible assumption) | with_reducible exact zx_b41 (by with_reducible assumption)) dX0_enter_44 ?_
      refine lv_iconst (v := 4) hx hb dX0_enter_45 (by decide) ?_
      refine zxK_areBytes C hl.1 (by decide) (Nat.le_of_ble_eq_true rfl) dX0_enter_46 ?_
      refine lv_if_ne (tgt := 57) hx hb dX0_enter_49 (by decide) (fun c4 => ?_) (fun c4 => ?_)
      · refine lv_aload_n hx hb dX0_enter_57 rfl (lv_at hl 1 rfl) ?_
        refine zxG_words C hP dX0_enter_58 ?_
        refine lv_iload_n hx hb dX0_enter_61 rfl (lv_at hl 0 rfl) ?_
        refine zxL_words C hP (by first | with_reducible assumption | with_reducible exact zx_in (by with_reducible assumption) | with_reducible exact zx_b10 (by with_reducible assumption) | with_reducible exact zx_b21 (by with_reducible assumption) | with_reducible exact zx_b31 (by with_reducible assumption) | with_reducible exact zx_b32 (by with_reducible assumption) | with_reducible exact zx_b42 (by with_reducible assumption) | with_reducible exact zx_b43 (by with_reducible assumption) | with_reducible exact zx_b33 (by with_reducible assumption) | with_reducible exact zx_b40 (by with_reducible assumption) | with_reducible exact zx_b41 (by with_reducible assumption)) dX0_enter_62 ?_
        refine lv_istore_n (lv' := [(2, .int (zxg_words u ((zxg_cpp u) + (zx_unsignedPair u ((zxg_pc u) + 1))).toNatClampNeg)), (1, .int ((zxg_cpp u) + (zx_unsignedPair u ((zxg_pc u) + 1)))), (0, .ref (zxa_this k))]) hx hb dX0_enter_63 rfl hl (by decide) rfl (fun ls hl => ?_)
        refine lv_aload_n hx hb dX0_enter_64 rfl (lv_at hl 2 rfl) ?_
        refine zxG_sp C hP dX0_enter_65 ?_
        refine lv_aload_n hx hb dX0_enter_68 rfl (lv_at hl 2 rfl) ?_
        refine lv_iload_n hx hb dX0_enter_69 rfl (lv_at hl 0 rfl) ?_
        refine zxK_unsignedPair C hP hl.1 (by decide) (Nat.le_of_ble_eq_true rfl) (by first | with_reducible assumption | with_reducible exact zx_in (by with_reducible assumption) | with_reducible exact zx_b10 (by with_reducible assumption) | with_reducible exact zx_b21 (by with_reducible assumption) | with_reducible exact zx_b31 (by with_reducible assumption) | with_reducible exact zx_b32 (by with_reducible assumption) | with_reducible exact zx_b42 (by with_reducible assumption) | with_reducible exact zx_b43 (by with_reducible assumption) | with_reducible exact zx_b33 (by with_reducible assumption) | with_reducible exact zx_b40 (by with_reducible assumption) | with_reducible exact zx_b41 (by with_reducible assumption)) (by first | with_reducible assumption | with_reducible exact zx_in (by with_reducible assumption) | with_reducible exact zx_b10 (by with_reducible assumption) | with_reducible exact zx_b21 (by with_reducible assumption) | with_reducible exact zx_b31 (by with_reducible assumption) | with_reducible exact zx_b32 (by with_reducible assumption) | with_reducible exact zx_b42 (by with_reducible assumption) | with_reducible exact zx_b43 (by with_reducible assumption) | with_reducible exact zx_b33 (by with_reducible assumption) | with_reducible exact zx_b40 (by with_reducible assumption) | with_reducible exact zx_b41 (by with_reducible assumption)) dX0_enter_70 ?_
        refine lv_isub hx hb dX0_enter_73 ?_
        refine lv_iconst (v := 1) hx hb dX0_enter_74 (by decide) ?_
        refine lv_iadd hx hb dX0_enter_75 ?_
        refine lv_istore_n (lv' := [(3, .int (((zxg_sp u) - (zx_unsignedPair u (zxg_words u ((zxg_cpp u) + (zx_unsignedPair u ((zxg_pc u) + 1))).toNatClampNeg))) + 1)), (2, .int (zxg_words u ((zxg_cpp u) + (zx_unsignedPair u ((zxg_pc u) + 1))).toNatClampNeg)), (1, .int ((zxg_cpp u) + (zx_unsignedPair u ((zxg_pc u) + 1)))), (0, .ref (zxa_this k))]) hx hb dX0_enter_76 rfl hl (by decide) rfl (fun ls hl => ?_)
        refine lv_aload_n hx hb dX0_enter_77 rfl (lv_at hl 3 rfl) ?_
        refine zxG_sp C hP dX0_enter_78 ?_
        refine lv_aload_n hx hb dX0_enter_81 rfl (lv_at hl 3 rfl) ?_
        refine lv_iload_n hx hb dX0_enter_82 rfl (lv_at hl 1 rfl) ?_
        refine lv_iconst (v := 2) hx hb dX0_enter_83 (by decide) ?_
        refine lv_iadd hx hb dX0_enter_84 ?_
        refine zxK_unsignedPair C hP hl.1 (by decide) (Nat.le_of_ble_eq_true rfl) (by first | with_reducible assumption | with_reducible exact zx_in (by with_reducible assumption) | with_reducible exact zx_b10 (by with_reducible assumption) | with_reducible exact zx_b21 (by with_reducible assumption) | with_reducible exact zx_b31 (by with_reducible assumption) | with_reducible exact zx_b32 (by with_reducible assumption) | with_reducible exact zx_b42 (by with_reducible assumption) | with_reducible exact zx_b43 (by with_reducible assumption) | with_reducible exact zx_b33 (by with_reducible assumption) | with_reducible exact zx_b40 (by with_reducible assumption) | with_reducible exact zx_b41 (by with_reducible assumption)) (by first | with_reducible assumption | with_reducible exact zx_in (by with_reducible assumption) | with_reducible exact zx_b10 (by with_reducible assumption) | with_reducible exact zx_b21 (by with_reducible assumption) | with_reducible exact zx_b31 (by with_reducible assumption) | with_reducible exact zx_b32 (by with_reducible assumption) | with_reducible exact zx_b42 (by with_reducible assumption) | with_reducible exact zx_b43 (by with_reducible assumption) | with_reducible exact zx_b33 (by with_reducible assumption) | with_reducible exact zx_b40 (by with_reducible assumption) | with_reducible exact zx_b41 (by with_reducible assumption)) dX0_enter_85 ?_
        refine lv_iadd hx hb dX0_enter_88 ?_
        refine lv_iconst (v := 1) hx hb dX0_enter_89 (by decide) ?_
        refine lv_iadd hx hb dX0_enter_90 ?_
        refine lv_istore (lv' := [(4, .int (((zxg_sp u) + (zx_unsignedPair u ((zxg_words u ((zxg_cpp u) + (zx_unsignedPair u ((zxg_pc u) + 1))).toNatClampNeg) + 2))) + 1)), (3, .int (((zxg_sp u) - (zx_unsignedPair u (zxg_words u ((zxg_cpp u) + (zx_unsignedPair u ((zxg_pc u) + 1))).toNatClampNeg))) + 1)), (2, .int (zxg_words u ((zxg_cpp u) + (zx_unsignedPair u ((zxg_pc u) + 1))).toNatClampNeg)), (1, .int ((zxg_cpp u) + (zx_unsignedPair u ((zxg_pc u) + 1)))), (0, .ref (zxa_this k))]) hx hb dX0_enter_91 hl (by decide) rfl (fun ls hl => ?_)
        refine lv_iload_n hx hb dX0_enter_93 rfl (lv_at hl 1 rfl) ?_
        refine zxK_isWord C hl.1 (by decide) (Nat.le_of_ble_eq_true rfl) dX0_enter_94 ?_
        refine lv_if_eq (tgt := 118) hx hb dX0_enter_97 (by decide) (fun c5 => ?_) (fun c5 => ?_)
        · refine lv_aload_n hx hb dX0_enter_118 rfl (lv_at hl 4 rfl) ?_
          refine zxK_fault C hP hS hl.1 (by decide) (Nat.le_of_ble_eq_true rfl) dX0_enter_119 (fun u6 H locs hu6 hP hS => ?_)
          exact zx_vret C hr hlk hP hS (by subst hu6; exact (if_neg c1).trans ((if_neg c2).trans ((if_neg c4).trans ((if_pos c5).trans (rfl))))) dX0_enter_122
        · refine lv_iload hx hb dX0_enter_100 (lv_at hl 0 rfl) ?_
          refine zxK_isWord C hl.1 (by decide) (Nat.le_of_ble_eq_true rfl) dX0_enter_102 ?_
          refine lv_if_eq (tgt := 118) hx hb dX0_enter_105 (by decide) (fun c7 => ?_) (fun c7 => ?_)
          · refine lv_aload_n hx hb dX0_enter_118 rfl (lv_at hl 4 rfl) ?_
            refine zxK_fault C hP hS hl.1 (by decide) (Nat.le_of_ble_eq_true rfl) dX0_enter_119 (fun u8 H locs hu8 hP hS => ?_)
            exact zx_vret C hr hlk hP hS (by subst hu8; exact (if_neg c1).trans ((if_neg c2).trans ((if_neg c4).trans ((if_neg c5).trans ((if_pos c7).trans (rfl)))))) dX0_enter_122
          · refine lv_iload hx hb dX0_enter_108 (lv_at hl 0 rfl) ?_
            refine lv_iconst (v := 1) hx hb dX0_enter_110 (by decide) ?_
            refine lv_iadd hx hb dX0_enter_111 ?_
            refine zxK_isWord C hl.1 (by decide) (Nat.le_of_ble_eq_true rfl) dX0_enter_112 ?_
            refine lv_if_ne (tgt := 123) hx hb dX0_enter_115 (by decide) (fun c9 => ?_) (fun c9 => ?_)
            · refine lv_aload_n hx hb dX0_enter_123 rfl (lv_at hl 4 rfl) ?_
              refine zxG_words C hP dX0_enter_124 ?_
              refine lv_iload_n hx hb dX0_enter_127 rfl (lv_at hl 1 rfl) ?_
              refine lv_iload hx hb dX0_enter_128 (lv_at hl 0 rfl) ?_
              refine zxS_words C hP hS (by first | with_reducible assumption | with_reducible exact zx_in (by with_reducible assumption) | with_reducible exact zx_b10 (by with_reducible assumption) | with_reducible exact zx_b21 (by with_reducible assumption) | with_reducible exact zx_b31 (by with_reducible assumption) | with_reducible exact zx_b32 (by with_reducible assumption) | with_reducible exact zx_b42 (by with_reducible assumption) | with_reducible exact zx_b43 (by with_reducible assumption) | with_reducible exact zx_b33 (by with_reducible assumption) | with_reducible exact zx_b40 (by with_reducible assumption) | with_reducible exact zx_b41 (by with_reducible assumption)) dX0_enter_130 (fun u10 H locs hu10 hP hS => ?_)
              refine lv_aload_n hx hb dX0_enter_131 rfl (lv_at hl 4 rfl) ?_
              refine zxG_words C hP dX0_enter_132 ?_
              refine lv_iload hx hb dX0_enter_135 (lv_at hl 0 rfl) ?_
              refine lv_aload_n hx hb dX0_enter_137 rfl (lv_at hl 4 rfl) ?_
              refine zxG_pc C hP dX0_enter_138 ?_
              refine lv_iconst (v := 3) hx hb dX0_enter_141 (by decide) ?_
              refine lv_iadd hx hb dX0_enter_142 ?_
              refine zxS_words C hP hS (by first | with_reducible assumption | with_reducible exact zx_in (by with_reducible assumption) | with_reducible exact zx_b10 (by with_reducible assumption) | with_reducible exact zx_b21 (by with_reducible assumption) | with_reducible exact zx_b31 (by with_reducible assumption) | with_reducible exact zx_b32 (by with_reducible assumption) | with_reducible exact zx_b42 (by with_reducible assumption) | with_reducible exact zx_b43 (by with_reducible assumption) | with_reducible exact zx_b33 (by with_reducible assumption) | with_reducible exact zx_b40 (by with_reducible assumption) | with_reducible exact zx_b41 (by with_reducible assumption)) dX0_enter_143 (fun u11 H locs hu11 hP hS => ?_)
              refine lv_aload_n hx hb dX0_enter_144 rfl (lv_at hl 4 rfl) ?_
              refine zxG_words C hP dX0_enter_145 ?_
              refine lv_iload hx hb dX0_enter_148 (lv_at hl 0 rfl) ?_
              refine lv_iconst (v := 1) hx hb dX0_enter_150 (by decide) ?_
              refine lv_iadd hx hb dX0_enter_151 ?_
              refine lv_aload_n hx hb dX0_enter_152 rfl (lv_at hl 4 rfl) ?_
              refine zxG_lv C hP dX0_enter_153 ?_
              refine zxS_words C hP hS (by first | with_reducible assumption | with_reducible exact zx_in (by with_reducible assumption) | with_reducible exact zx_b10 (by with_reducible assumption) | with_reducible exact zx_b21 (by with_reducible assumption) | with_reducible exact zx_b31 (by with_reducible assumption) | with_reducible exact zx_b32 (by with_reducible assumption) | with_reducible exact zx_b42 (by with_reducible assumption) | with_reducible exact zx_b43 (by with_reducible assumption) | with_reducible exact zx_b33 (by with_reducible assumption) | with_reducible exact zx_b40 (by with_reducible assumption) | with_reducible exact zx_b41 (by with_reducible assumption)) dX0_enter_156 (fun u12 H locs hu12 hP hS => ?_)
              refine lv_aload_n hx hb dX0_enter_157 rfl (lv_at hl 4 rfl) ?_
              refine lv_iload hx hb dX0_enter_158 (lv_at hl 0 rfl) ?_
              refine lv_iconst (v := 1) hx hb dX0_enter_160 (by decide) ?_
              refine lv_iadd hx hb dX0_enter_161 ?_
              refine zxP_sp C hP hS dX0_enter_162 (fun u13 H locs hu13 hP hS => ?_)
              refine lv_aload_n hx hb dX0_enter_165 rfl (lv_at hl 4 rfl) ?_
              refine lv_iload_n hx hb dX0_enter_166 rfl (lv_at hl 1 rfl) ?_
              refine zxP_lv C hP hS dX0_enter_167 (fun u14 H locs hu14 hP hS => ?_)
              refine lv_aload_n hx hb dX0_enter_170 rfl (lv_at hl 4 rfl) ?_
              refine lv_iload_n hx hb dX0_enter_171 rfl (lv_at hl 1 rfl) ?_
              refine zxP_top C hP hS dX0_enter_172 (fun u15 H locs hu15 hP hS => ?_)
              refine lv_aload_n hx hb dX0_enter_175 rfl (lv_at hl 4 rfl) ?_
              refine lv_iload_n hx hb dX0_enter_176 rfl (lv_at hl 2 rfl) ?_
              refine lv_iconst (v := 4) hx hb dX0_enter_177 (by decide) ?_
              refine lv_iadd hx hb dX0_enter_178 ?_
              refine lv_bipush (v := 23) hx hb dX0_enter_179 (by decide) ?_
              refine zxK_finish C hP hS hl.1 (by decide) (Nat.le_of_ble_eq_true rfl) dX0_enter_181 (fun u16 H locs hu16 hP hS => ?_)
              exact zx_vret C hr hlk hP hS (by subst hu10 hu11 hu12 hu13 hu14 hu15 hu16; exact (if_neg c1).trans ((if_neg c2).trans ((if_neg c4).trans ((if_neg c5).trans ((if_neg c7).trans ((if_neg c9).trans (rfl))))))) dX0_enter_184
            · refine lv_aload_n hx hb dX0_enter_118 rfl (lv_at hl 4 rfl) ?_
              refine zxK_fault C hP hS hl.1 (by decide) (Nat.le_of_ble_eq_true rfl) dX0_enter_119 (fun u17 H locs hu17 hP hS => ?_)
              exact zx_vret C hr hlk hP hS (by subst hu17; exact (if_neg c1).trans ((if_neg c2).trans ((if_neg c4).trans ((if_neg c5).trans ((if_neg c7).trans ((if_pos c9).trans (rfl))))))) dX0_enter_122
      · refine lv_aload_n hx hb dX0_enter_52 rfl (lv_at hl 1 rfl) ?_
        refine zxK_fault C hP hS hl.1 (by decide) (Nat.le_of_ble_eq_true rfl) dX0_enter_53 (fun u18 H locs hu18 hP hS => ?_)
        exact zx_vret C hr hlk hP hS (by subst hu18; exact (if_neg c1).trans ((if_neg c2).trans ((if_pos c4).trans (rfl)))) dX0_enter_56
  · refine lv_aload_n hx hb dX0_enter_11 rfl (lv_at hl 0 rfl) ?_
    refine zxK_fault C hP hS hl.1 (by decide) (Nat.le_of_ble_eq_true rfl) dX0_enter_12 (fun u19 H locs hu19 hP hS => ?_)
    exact zx_vret C hr hlk hP hS (by subst hu19; exact (if_pos c1).trans (rfl)) dX0_enter_15
section
variable {p : Program} {l : Launch} {e : Env} {R : Room} {s : State} {m : MethodId} {args : Array Value} {below : List Frame} {meth : Method} {c : Code} {H : Heap} {locs : List Loc} {Q : State → Prop} {cc : ByteArray} {pc nL : Nat} {ls : Array Slot} {rest : List Value} {k : Zxk} {u : Zxs} {H0 : Heap}
set_option maxHeartbeats 4000000 in
set_option maxRecDepth 100000 in
theorem zxK_enter (C : ZxC p s m args c cc nL k) (hP : ZxP k u H) (hS : va_S (ZxA k) H0 H locs) (hsz : ls.size = nL) (hR : 2 + 1 ≤ R.frames ∧ 8 + (5 + 11) + 40 * 2 ≤ R.locals) (hw : (rest.map fun v => v.category).sum ≤ 8) (hdg : decode cc pc = .ok (.invokevirtual 127, 3)) (kk : ∀ (u1 : Zxs) (H1 : Heap) (locs1 : List Loc), u1 = zx_enter u  → ZxP k u1 H1 → va_S (ZxA k) H0 H1 locs1 → W p l e R s m args below meth c H1 locs1 0 0 Q (F0 m (pc + 3) ls (rest))) : W p l e R s m args below meth c H locs 0 0 Q (F0 m pc ls (.ref (zxa_this k) :: rest)) :=
  zx_callV (y := yX0_enter) (n := 0) (As := []) C (zxM_enter l k C.2.2 u  ) wsX0_step_c_enter wsX0_step_l_enter wsX0_step_i_enter wsX0_step_v_enter rfl (by decide +kernel) hP hS hsz hR hw rfl hdg (fun H1 locs1 hP1 hS1 => kk _ H1 locs1 rfl hP1 hS1)
end
end
section
def zx_leave (u : Zxs) : Zxs :=
  if (zx_isWord (zxg_lv u)) = 0 then (
    let u10 := zx_fault u
    u10)
  else (
    if (zx_isWord (zxg_words u (zxg_lv u).toNatClampNeg)) = 0 then (
      let u3 := zx_fault u
      u3)
    else (
      if (zx_isWord ((zxg_words u (zxg_lv u).toNatClampNeg) + 1)) = 0 then (
        let u9 := zx_fault u
        u9)
      else (
        let u5 := zxs_words u (upd (zxg_words u) (zxg_lv u).toNatClampNeg (zxg_top u))
        let u6 := zxs_sp u5 (zxg_lv u5)
        let u7 := zxs_lv u6 (zxg_words u ((zxg_words u (zxg_lv u).toNatClampNeg) + 1).toNatClampNeg)
        let u8 := zx_finish u7 (zxg_words u (zxg_words u (zxg_lv u).toNatClampNeg).toNatClampNeg) 9
        u8)))
set_option maxHeartbeats 4000000 in
set_option maxRecDepth 100000 in
theorem zxM_leave (l : Launch) (k : Zxk) (Dk : ZxD k) (u : Zxs) : Met l yX0_leave (.code yX0_leave cX0_leave 4 none :: wsX0_step) (zrm 1) (ZxB k [.ref (zxa_this k)] u) (ZxQ k none (zx_leave u )) 0 0 (ZxA k) := by
  refine zxE_in (by decide) rfl (Nat.le_of_ble_eq_true rfl) Dk ?_
  intro p e s m below meth c ls C hr hlk hP hl
  have hx := C.1.1
  have hb := C.1.2.1
  have hl : lv_has ls 4 [(0, .ref (zxa_this k))] := hl
  have hS : va_S (ZxA k) s.heap s.heap [] := va_S.rf
  refine lv_aload_n hx hb dX0_leave_0 rfl (lv_at hl 0 rfl) ?_
  refine zxG_lv C hP dX0_leave_1 ?_
  refine zxK_isWord C hl.1 (by decide) (Nat.le_of_ble_eq_true rfl) dX0_leave_4 ?_
  refine lv_if_ne (tgt := 15) hx hb dX0_leave_7 (by decide) (fun c1 => ?_) (fun c1 => ?_)
  · refine lv_aload_n hx hb dX0_leave_15 rfl (lv_at hl 0 rfl) ?_
    refine zxG_words C hP dX0_leave_16 ?_
    refine lv_aload_n hx hb dX0_leave_19 rfl (lv_at hl 0 rfl) ?_
    refine zxG_lv C hP dX0_leave_20 ?_
    refine zxL_words C hP (by first | with_reducible assumption | with_reducible exact zx_in (by with_reducible assumption) | with_reducible exact zx_b10 (by with_reducible assumption) | with_reducible exact zx_b21 (by with_reducible assumption) | with_reducible exact zx_b31 (by with_reducible assumption) | with_reducible exact zx_b32 (by with_reducible assumption) | with_reducible exact zx_b42 (by with_reducible assumption) | with_reducible exact zx_b43 (by with_reducible assumption) | with_reducible exact zx_b33 (by with_reducible assumption) | with_reducible exact zx_b40 (by with_reducible assumption) | with_reducible exact zx_b41 (by with_reducible assumption)) dX0_leave_23 ?_
    refine lv_istore_n (lv' := [(1, .int (zxg_words u (zxg_lv u).toNatClampNeg)), (0, .ref (zxa_this k))]) hx hb dX0_leave_24 rfl hl (by decide) rfl (fun ls hl => ?_)
    refine lv_iload_n hx hb dX0_leave_25 rfl (lv_at hl 0 rfl) ?_
    refine zxK_isWord C hl.1 (by decide) (Nat.le_of_ble_eq_true rfl) dX0_leave_26 ?_
    refine lv_if_eq (tgt := 41) hx hb dX0_leave_29 (by decide) (fun c2 => ?_) (fun c2 => ?_)
    · refine lv_aload_n hx hb dX0_leave_41 rfl (lv_at hl 1 rfl) ?_
      refine zxK_fault C hP hS hl.1 (by decide) (Nat.le_of_ble_eq_true rfl) dX0_leave_42 (fun u3 H locs hu3 hP hS => ?_)
      exact zx_vret C hr hlk hP hS (by subst hu3; exact (if_neg c1).trans ((if_pos c2).trans (rfl))) dX0_leave_45
    · refine lv_iload_n hx hb dX0_leave_32 rfl (lv_at hl 0 rfl) ?_
      refine lv_iconst (v := 1) hx hb dX0_leave_33 (by decide) ?_
      refine lv_iadd hx hb dX0_leave_34 ?_
      refine zxK_isWord C hl.1 (by decide) (Nat.le_of_ble_eq_true rfl) dX0_leave_35 ?_
      refine lv_if_ne (tgt := 46) hx hb dX0_leave_38 (by decide) (fun c4 => ?_) (fun c4 => ?_)
      · refine lv_aload_n hx hb dX0_leave_46 rfl (lv_at hl 1 rfl) ?_
        refine zxG_words C hP dX0_leave_47 ?_
        refine lv_iload_n hx hb dX0_leave_50 rfl (lv_at hl 0 rfl) ?_
        refine zxL_words C hP (by first | with_reducible assumption | with_reducible exact zx_in (by with_reducible assumption) | with_reducible exact zx_b10 (by with_reducible assumption) | with_reducible exact zx_b21 (by with_reducible assumption) | with_reducible exact zx_b31 (by with_reducible assumption) | with_reducible exact zx_b32 (by with_reducible assumption) | with_reducible exact zx_b42 (by with_reducible assumption) | with_reducible exact zx_b43 (by with_reducible assumption) | with_reducible exact zx_b33 (by with_reducible assumption) | with_reducible exact zx_b40 (by with_reducible assumption) | with_reducible exact zx_b41 (by with_reducible assumption)) dX0_leave_51 ?_
        refine lv_istore_n (lv' := [(2, .int (zxg_words u (zxg_words u (zxg_lv u).toNatClampNeg).toNatClampNeg)), (1, .int (zxg_words u (zxg_lv u).toNatClampNeg)), (0, .ref (zxa_this k))]) hx hb dX0_leave_52 rfl hl (by decide) rfl (fun ls hl => ?_)
        refine lv_aload_n hx hb dX0_leave_53 rfl (lv_at hl 2 rfl) ?_
        refine zxG_words C hP dX0_leave_54 ?_
        refine lv_iload_n hx hb dX0_leave_57 rfl (lv_at hl 1 rfl) ?_
        refine lv_iconst (v := 1) hx hb dX0_leave_58 (by decide) ?_
        refine lv_iadd hx hb dX0_leave_59 ?_
        refine zxL_words C hP (by first | with_reducible assumption | with_reducible exact zx_in (by with_reducible assumption) | with_reducible exact zx_b10 (by with_reducible assumption) | with_reducible exact zx_b21 (by with_reducible assumption) | with_reducible exact zx_b31 (by with_reducible assumption) | with_reducible exact zx_b32 (by with_reducible assumption) | with_reducible exact zx_b42 (by with_reducible assumption) | with_reducible exact zx_b43 (by with_reducible assumption) | with_reducible exact zx_b33 (by with_reducible assumption) | with_reducible exact zx_b40 (by with_reducible assumption) | with_reducible exact zx_b41 (by with_reducible assumption)) dX0_leave_60 ?_
        refine lv_istore_n (lv' := [(3, .int (zxg_words u ((zxg_words u (zxg_lv u).toNatClampNeg) + 1).toNatClampNeg)), (2, .int (zxg_words u (zxg_words u (zxg_lv u).toNatClampNeg).toNatClampNeg)), (1, .int (zxg_words u (zxg_lv u).toNatClampNeg)), (0, .ref (zxa_this k))]) hx hb dX0_leave_61 rfl hl (by decide) rfl (fun ls hl => ?_)
        refine lv_aload_n hx hb dX0_leave_62 rfl (lv_at hl 3 rfl) ?_
        refine zxG_words C hP dX0_leave_63 ?_
        refine lv_aload_n hx hb dX0_leave_66 rfl (lv_at hl 3 rfl) ?_
        refine zxG_lv C hP dX0_leave_67 ?_
        refine lv_aload_n hx hb dX0_leave_70 rfl (lv_at hl 3 rfl) ?_
        refine zxG_top C hP dX0_leave_71 ?_
        refine zxS_words C hP hS (by first | with_reducible assumption | with_reducible exact zx_in (by with_reducible assumption) | with_reducible exact zx_b10 (by with_reducible assumption) | with_reducible exact zx_b21 (by with_reducible assumption) | with_reducible exact zx_b31 (by with_reducible assumption) | with_reducible exact zx_b32 (by with_reducible assumption) | with_reducible exact zx_b42 (by with_reducible assumption) | with_reducible exact zx_b43 (by with_reducible assumption) | with_reducible exact zx_b33 (by with_reducible assumption) | with_reducible exact zx_b40 (by with_reducible assumption) | with_reducible exact zx_b41 (by with_reducible assumption)) dX0_leave_74 (fun u5 H locs hu5 hP hS => ?_)
        refine lv_aload_n hx hb dX0_leave_75 rfl (lv_at hl 3 rfl) ?_
        refine lv_aload_n hx hb dX0_leave_76 rfl (lv_at hl 3 rfl) ?_
        refine zxG_lv C hP dX0_leave_77 ?_
        refine zxP_sp C hP hS dX0_leave_80 (fun u6 H locs hu6 hP hS => ?_)
        refine lv_aload_n hx hb dX0_leave_83 rfl (lv_at hl 3 rfl) ?_
        refine lv_iload_n hx hb dX0_leave_84 rfl (lv_at hl 0 rfl) ?_
        refine zxP_lv C hP hS dX0_leave_85 (fun u7 H locs hu7 hP hS => ?_)
        refine lv_aload_n hx hb dX0_leave_88 rfl (lv_at hl 3 rfl) ?_
        refine lv_iload_n hx hb dX0_leave_89 rfl (lv_at hl 1 rfl) ?_
        refine lv_bipush (v := 9) hx hb dX0_leave_90 (by decide) ?_
        refine zxK_finish C hP hS hl.1 (by decide) (Nat.le_of_ble_eq_true rfl) dX0_leave_92 (fun u8 H locs hu8 hP hS => ?_)
        exact zx_vret C hr hlk hP hS (by subst hu5 hu6 hu7 hu8; exact (if_neg c1).trans ((if_neg c2).trans ((if_neg c4).trans (rfl)))) dX0_leave_95
      · refine lv_aload_n hx hb dX0_leave_41 rfl (lv_at hl 1 rfl) ?_
        refine zxK_fault C hP hS hl.1 (by decide) (Nat.le_of_ble_eq_true rfl) dX0_leave_42 (fun u9 H locs hu9 hP hS => ?_)
        exact zx_vret C hr hlk hP hS (by subst hu9; exact (if_neg c1).trans ((if_neg c2).trans ((if_pos c4).trans (rfl)))) dX0_leave_45
  · refine lv_aload_n hx hb dX0_leave_10 rfl (lv_at hl 0 rfl) ?_
    refine zxK_fault C hP hS hl.1 (by decide) (Nat.le_of_ble_eq_true rfl) dX0_leave_11 (fun u10 H locs hu10 hP hS => ?_)
    exact zx_vret C hr hlk hP hS (by subst hu10; exact (if_pos c1).trans (rfl)) dX0_leave_14
section
variable {p : Program} {l : Launch} {e : Env} {R : Room} {s : State} {m : MethodId} {args : Array Value} {below : List Frame} {meth : Method} {c : Code} {H : Heap} {locs : List Loc} {Q : State → Prop} {cc : ByteArray} {pc nL : Nat} {ls : Array Slot} {rest : List Value} {k : Zxk} {u : Zxs} {H0 : Heap}
set_option maxHeartbeats 4000000 in
set_option maxRecDepth 100000 in
theorem zxK_leave (C : ZxC p s m args c cc nL k) (hP : ZxP k u H) (hS : va_S (ZxA k) H0 H locs) (hsz : ls.size = nL) (hR : 1 + 1 ≤ R.frames ∧ 8 + (4 + 11) + 40 * 1 ≤ R.locals) (hw : (rest.map fun v => v.category).sum ≤ 8) (hdg : decode cc pc = .ok (.invokevirtual 130, 3)) (kk : ∀ (u1 : Zxs) (H1 : Heap) (locs1 : List Loc), u1 = zx_leave u  → ZxP k u1 H1 → va_S (ZxA k) H0 H1 locs1 → W p l e R s m args below meth c H1 locs1 0 0 Q (F0 m (pc + 3) ls (rest))) : W p l e R s m args below meth c H locs 0 0 Q (F0 m pc ls (.ref (zxa_this k) :: rest)) :=
  zx_callV (y := yX0_leave) (n := 0) (As := []) C (zxM_leave l k C.2.2 u  ) wsX0_step_c_leave wsX0_step_l_leave wsX0_step_i_leave wsX0_step_v_leave rfl (by decide +kernel) hP hS hsz hR hw rfl hdg (fun H1 locs1 hP1 hS1 => kk _ H1 locs1 rfl hP1 hS1)
end
end
section
def zx_step (u : Zxs) : Zxs :=
  if (zx_areBytes (zxg_pc u) 1) = 0 then (
    let u49 := zx_fault u
    u49)
  else (
    if (zx_unsignedByte u (zxg_pc u)) = 0 then (
      let u3 := zx_finish u ((zxg_pc u) + 1) 2
      u3)
    else (
      if (zx_unsignedByte u (zxg_pc u)) = 16 then (
        let u5 := zx_pushByte u
        u5)
      else (
        if (zx_unsignedByte u (zxg_pc u)) = 19 then (
          let u7 := zx_loadConstant u
          u7)
        else (
          if (zx_unsignedByte u (zxg_pc u)) = 21 then (
            let u9 := zx_loadNarrow u
            u9)
          else (
            if (zx_unsignedByte u (zxg_pc u)) = 54 then (
              let u11 := zx_storeNarrow u
              u11)
            else (
              if (zx_unsignedByte u (zxg_pc u)) = 87 then (
                let u13 := zx_pop u
                u13)
              else (
                if (zx_unsignedByte u (zxg_pc u)) = 89 then (
                  let u15 := zx_push u (zxg_top u) 1 3
                  u15)
                else (
                  if (zx_unsignedByte u (zxg_pc u)) = 95 then (
                    let u17 := zx_swap u
                    u17)
                  else (
                    if (zx_unsignedByte u (zxg_pc u)) = 96 then (
                      let u19 := zx_combine u (zx_unsignedByte u (zxg_pc u))
                      u19)
                    else (
                      if (zx_unsignedByte u (zxg_pc u)) = 100 then (
                        let u21 := zx_combine u (zx_unsignedByte u (zxg_pc u))
                        u21)
                      else (
                        if (zx_unsignedByte u (zxg_pc u)) = 126 then (
                          let u23 := zx_combine u (zx_unsignedByte u (zxg_pc u))
                          u23)
                        else (
                          if (zx_unsignedByte u (zxg_pc u)) = 128 then (
                            let u25 := zx_combine u (zx_unsignedByte u (zxg_pc u))
                            u25)
                          else (
                            if (zx_unsignedByte u (zxg_pc u)) = 132 then (
                              let u27 := zx_increase u
                              u27)
                            else (
                              if (zx_unsignedByte u (zxg_pc u)) = 153 then (
                                if (zxg_top u) = 0 then (
                                  let u31 := zx_jumpOnTop u 1
                                  u31)
                                else (
                                  let u30 := zx_jumpOnTop u 0
                                  u30))
                              else (
                                if (zx_unsignedByte u (zxg_pc u)) = 155 then (
                                  if 0 ≤ (zxg_top u) then (
                                    let u34 := zx_jumpOnTop u 0
                                    u34)
                                  else (
                                    let u35 := zx_jumpOnTop u 1
                                    u35))
                                else (
                                  if (zx_unsignedByte u (zxg_pc u)) = 159 then (
                                    let u37 := zx_jumpOnLike u
                                    u37)
                                  else (
                                    if (zx_unsignedByte u (zxg_pc u)) = 167 then (
                                      let u39 := zx_jump u 7
                                      u39)
                                    else (
                                      if (zx_unsignedByte u (zxg_pc u)) = 172 then (
                                        let u41 := zx_leave u
                                        u41)
                                      else (
                                        if (zx_unsignedByte u (zxg_pc u)) = 182 then (
                                          let u43 := zx_enter u
                                          u43)
                                        else (
                                          if (zx_unsignedByte u (zxg_pc u)) = 196 then (
                                            let u45 := zx_wide u
                                            u45)
                                          else (
                                            if (zx_unsignedByte u (zxg_pc u)) = 255 then (
                                              let u47 := zx_halt u
                                              u47)
                                            else (
                                              let u48 := zx_trap u
                                              u48))))))))))))))))))))))
set_option maxHeartbeats 4000000 in
set_option maxRecDepth 100000 in
theorem zxM_step (l : Launch) (k : Zxk) (Dk : ZxD k) (u : Zxs) : Met l yX0_step (.code yX0_step cX0_step 2 none :: wsX0_step) (zrm 5) (ZxB k [.ref (zxa_this k)] u) (ZxQ k none (zx_step u )) 0 0 (ZxA k) := by
  refine zxE_in (by decide) rfl (Nat.le_of_ble_eq_true rfl) Dk ?_
  intro p e s m below meth c ls C hr hlk hP hl
  have hx := C.1.1
  have hb := C.1.2.1
  have hl : lv_has ls 2 [(0, .ref (zxa_this k))] := hl
  have hS : va_S (ZxA k) s.heap s.heap [] := va_S.rf
  refine lv_aload_n hx hb dX0_step_0 rfl (lv_at hl 0 rfl) ?_
  refine zxG_pc C hP dX0_step_1 ?_
  refine lv_iconst (v := 1) hx hb dX0_step_4 (by decide) ?_
  refine zxK_areBytes C hl.1 (by decide) (Nat.le_of_ble_eq_true rfl) dX0_step_5 ?_
  refine lv_if_ne (tgt := 16) hx hb dX0_step_8 (by decide) (fun c1 => ?_) (fun c1 => ?_)
  · refine lv_aload_n hx hb dX0_step_16 rfl (lv_at hl 0 rfl) ?_
    refine lv_aload_n hx hb dX0_step_17 rfl (lv_at hl 0 rfl) ?_
    refine zxG_pc C hP dX0_step_18 ?_
    refine zxK_unsignedByte C hP hl.1 (by decide) (Nat.le_of_ble_eq_true rfl) (by first | with_reducible assumption | with_reducible exact zx_in (by with_reducible assumption) | with_reducible exact zx_b10 (by with_reducible assumption) | with_reducible exact zx_b21 (by with_reducible assumption) | with_reducible exact zx_b31 (by with_reducible assumption) | with_reducible exact zx_b32 (by with_reducible assumption) | with_reducible exact zx_b42 (by with_reducible assumption) | with_reducible exact zx_b43 (by with_reducible assumption) | with_reducible exact zx_b33 (by with_reducible assumption) | with_reducible exact zx_b40 (by with_reducible assumption) | with_reducible exact zx_b41 (by with_reducible assumption)) dX0_step_21 ?_
    refine lv_istore_n (lv' := [(1, .int (zx_unsignedByte u (zxg_pc u))), (0, .ref (zxa_this k))]) hx hb dX0_step_24 rfl hl (by decide) rfl (fun ls hl => ?_)
    refine lv_iload_n hx hb dX0_step_25 rfl (lv_at hl 0 rfl) ?_
    by_cases c2 : (zx_unsignedByte u (zxg_pc u)) = 0
    · refine lv_lookup (off := 178) (tgt := 204) hx hb dX0_step_26 (by decide) (z_sw c2 (by decide)) (by decide) ?_
      refine lv_aload_n hx hb dX0_step_204 rfl (lv_at hl 1 rfl) ?_
      refine lv_aload_n hx hb dX0_step_205 rfl (lv_at hl 1 rfl) ?_
      refine zxG_pc C hP dX0_step_206 ?_
      refine lv_iconst (v := 1) hx hb dX0_step_209 (by decide) ?_
      refine lv_iadd hx hb dX0_step_210 ?_
      refine lv_iconst (v := 2) hx hb dX0_step_211 (by decide) ?_
      refine zxK_finish C hP hS hl.1 (by decide) (Nat.le_of_ble_eq_true rfl) dX0_step_212 (fun u3 H locs hu3 hP hS => ?_)
      refine lv_goto (tgt := 374) hx hb dX0_step_215 (by decide) ?_
      exact zx_vret C hr hlk hP hS (by subst hu3; exact (if_neg c1).trans ((if_pos c2).trans (rfl))) dX0_step_374
    · skip
      by_cases c4 : (zx_unsignedByte u (zxg_pc u)) = 16
      · refine lv_lookup (off := 227) (tgt := 253) hx hb dX0_step_26 (by decide) (z_sw c4 (by decide)) (by decide) ?_
        refine lv_aload_n hx hb dX0_step_253 rfl (lv_at hl 1 rfl) ?_
        refine zxK_pushByte C hP hS hl.1 (by decide) (Nat.le_of_ble_eq_true rfl) dX0_step_254 (fun u5 H locs hu5 hP hS => ?_)
        refine lv_goto (tgt := 374) hx hb dX0_step_257 (by decide) ?_
        exact zx_vret C hr hlk hP hS (by subst hu5; exact (if_neg c1).trans ((if_neg c2).trans ((if_pos c4).trans (rfl)))) dX0_step_374
      · skip
        by_cases c6 : (zx_unsignedByte u (zxg_pc u)) = 19
        · refine lv_lookup (off := 255) (tgt := 281) hx hb dX0_step_26 (by decide) (z_sw c6 (by decide)) (by decide) ?_
          refine lv_aload_n hx hb dX0_step_281 rfl (lv_at hl 1 rfl) ?_
          refine zxK_loadConstant C hP hS hl.1 (by decide) (Nat.le_of_ble_eq_true rfl) dX0_step_282 (fun u7 H locs hu7 hP hS => ?_)
          refine lv_goto (tgt := 374) hx hb dX0_step_285 (by decide) ?_
          exact zx_vret C hr hlk hP hS (by subst hu7; exact (if_neg c1).trans ((if_neg c2).trans ((if_neg c4).trans ((if_pos c6).trans (rfl))))) dX0_step_374
        · skip
          by_cases c8 : (zx_unsignedByte u (zxg_pc u)) = 21
          · refine lv_lookup (off := 234) (tgt := 260) hx hb dX0_step_26 (by decide) (z_sw c8 (by decide)) (by decide) ?_
            refine lv_aload_n hx hb dX0_step_260 rfl (lv_at hl 1 rfl) ?_
            refine zxK_loadNarrow C hP hS hl.1 (by decide) (Nat.le_of_ble_eq_true rfl) dX0_step_261 (fun u9 H locs hu9 hP hS => ?_)
            refine lv_goto (tgt := 374) hx hb dX0_step_264 (by decide) ?_
            exact zx_vret C hr hlk hP hS (by subst hu9; exact (if_neg c1).trans ((if_neg c2).trans ((if_neg c4).trans ((if_neg c6).trans ((if_pos c8).trans (rfl)))))) dX0_step_374
          · skip
            by_cases c10 : (zx_unsignedByte u (zxg_pc u)) = 54
            · refine lv_lookup (off := 241) (tgt := 267) hx hb dX0_step_26 (by decide) (z_sw c10 (by decide)) (by decide) ?_
              refine lv_aload_n hx hb dX0_step_267 rfl (lv_at hl 1 rfl) ?_
              refine zxK_storeNarrow C hP hS hl.1 (by decide) (Nat.le_of_ble_eq_true rfl) dX0_step_268 (fun u11 H locs hu11 hP hS => ?_)
              refine lv_goto (tgt := 374) hx hb dX0_step_271 (by decide) ?_
              exact zx_vret C hr hlk hP hS (by subst hu11; exact (if_neg c1).trans ((if_neg c2).trans ((if_neg c4).trans ((if_neg c6).trans ((if_neg c8).trans ((if_pos c10).trans (rfl))))))) dX0_step_374
            · skip
              by_cases c12 : (zx_unsignedByte u (zxg_pc u)) = 87
              · refine lv_lookup (off := 213) (tgt := 239) hx hb dX0_step_26 (by decide) (z_sw c12 (by decide)) (by decide) ?_
                refine lv_aload_n hx hb dX0_step_239 rfl (lv_at hl 1 rfl) ?_
                refine zxK_pop C hP hS hl.1 (by decide) (Nat.le_of_ble_eq_true rfl) dX0_step_240 (fun u13 H locs hu13 hP hS => ?_)
                refine lv_goto (tgt := 374) hx hb dX0_step_243 (by decide) ?_
                exact zx_vret C hr hlk hP hS (by subst hu13; exact (if_neg c1).trans ((if_neg c2).trans ((if_neg c4).trans ((if_neg c6).trans ((if_neg c8).trans ((if_neg c10).trans ((if_pos c12).trans (rfl)))))))) dX0_step_374
              · skip
                by_cases c14 : (zx_unsignedByte u (zxg_pc u)) = 89
                · refine lv_lookup (off := 200) (tgt := 226) hx hb dX0_step_26 (by decide) (z_sw c14 (by decide)) (by decide) ?_
                  refine lv_aload_n hx hb dX0_step_226 rfl (lv_at hl 1 rfl) ?_
                  refine lv_aload_n hx hb dX0_step_227 rfl (lv_at hl 1 rfl) ?_
                  refine zxG_top C hP dX0_step_228 ?_
                  refine lv_iconst (v := 1) hx hb dX0_step_231 (by decide) ?_
                  refine lv_iconst (v := 3) hx hb dX0_step_232 (by decide) ?_
                  refine zxK_push C hP hS hl.1 (by decide) (Nat.le_of_ble_eq_true rfl) dX0_step_233 (fun u15 H locs hu15 hP hS => ?_)
                  refine lv_goto (tgt := 374) hx hb dX0_step_236 (by decide) ?_
                  exact zx_vret C hr hlk hP hS (by subst hu15; exact (if_neg c1).trans ((if_neg c2).trans ((if_neg c4).trans ((if_neg c6).trans ((if_neg c8).trans ((if_neg c10).trans ((if_neg c12).trans ((if_pos c14).trans (rfl))))))))) dX0_step_374
                · skip
                  by_cases c16 : (zx_unsignedByte u (zxg_pc u)) = 95
                  · refine lv_lookup (off := 220) (tgt := 246) hx hb dX0_step_26 (by decide) (z_sw c16 (by decide)) (by decide) ?_
                    refine lv_aload_n hx hb dX0_step_246 rfl (lv_at hl 1 rfl) ?_
                    refine zxK_swap C hP hS hl.1 (by decide) (Nat.le_of_ble_eq_true rfl) dX0_step_247 (fun u17 H locs hu17 hP hS => ?_)
                    refine lv_goto (tgt := 374) hx hb dX0_step_250 (by decide) ?_
                    exact zx_vret C hr hlk hP hS (by subst hu17; exact (if_neg c1).trans ((if_neg c2).trans ((if_neg c4).trans ((if_neg c6).trans ((if_neg c8).trans ((if_neg c10).trans ((if_neg c12).trans ((if_neg c14).trans ((if_pos c16).trans (rfl)))))))))) dX0_step_374
                  · skip
                    by_cases c18 : (zx_unsignedByte u (zxg_pc u)) = 96
                    · refine lv_lookup (off := 192) (tgt := 218) hx hb dX0_step_26 (by decide) (z_sw c18 (by decide)) (by decide) ?_
                      refine lv_aload_n hx hb dX0_step_218 rfl (lv_at hl 1 rfl) ?_
                      refine lv_iload_n hx hb dX0_step_219 rfl (lv_at hl 0 rfl) ?_
                      refine zxK_combine C hP hS hl.1 (by decide) (Nat.le_of_ble_eq_true rfl) dX0_step_220 (fun u19 H locs hu19 hP hS => ?_)
                      refine lv_goto (tgt := 374) hx hb dX0_step_223 (by decide) ?_
                      exact zx_vret C hr hlk hP hS (by subst hu19; exact (if_neg c1).trans ((if_neg c2).trans ((if_neg c4).trans ((if_neg c6).trans ((if_neg c8).trans ((if_neg c10).trans ((if_neg c12).trans ((if_neg c14).trans ((if_neg c16).trans ((if_pos c18).trans (rfl))))))))))) dX0_step_374
                    · skip
                      by_cases c20 : (zx_unsignedByte u (zxg_pc u)) = 100
                      · refine lv_lookup (off := 192) (tgt := 218) hx hb dX0_step_26 (by decide) (z_sw c20 (by decide)) (by decide) ?_
                        refine lv_aload_n hx hb dX0_step_218 rfl (lv_at hl 1 rfl) ?_
                        refine lv_iload_n hx hb dX0_step_219 rfl (lv_at hl 0 rfl) ?_
                        refine zxK_combine C hP hS hl.1 (by decide) (Nat.le_of_ble_eq_true rfl) dX0_step_220 (fun u21 H locs hu21 hP hS => ?_)
                        refine lv_goto (tgt := 374) hx hb dX0_step_223 (by decide) ?_
                        exact zx_vret C hr hlk hP hS (by subst hu21; exact (if_neg c1).trans ((if_neg c2).trans ((if_neg c4).trans ((if_neg c6).trans ((if_neg c8).trans ((if_neg c10).trans ((if_neg c12).trans ((if_neg c14).trans ((if_neg c16).trans ((if_neg c18).trans ((if_pos c20).trans (rfl)))))))))))) dX0_step_374
                      · skip
                        by_cases c22 : (zx_unsignedByte u (zxg_pc u)) = 126
                        · refine lv_lookup (off := 192) (tgt := 218) hx hb dX0_step_26 (by decide) (z_sw c22 (by decide)) (by decide) ?_
                          refine lv_aload_n hx hb dX0_step_218 rfl (lv_at hl 1 rfl) ?_
                          refine lv_iload_n hx hb dX0_step_219 rfl (lv_at hl 0 rfl) ?_
                          refine zxK_combine C hP hS hl.1 (by decide) (Nat.le_of_ble_eq_true rfl) dX0_step_220 (fun u23 H locs hu23 hP hS => ?_)
                          refine lv_goto (tgt := 374) hx hb dX0_step_223 (by decide) ?_
                          exact zx_vret C hr hlk hP hS (by subst hu23; exact (if_neg c1).trans ((if_neg c2).trans ((if_neg c4).trans ((if_neg c6).trans ((if_neg c8).trans ((if_neg c10).trans ((if_neg c12).trans ((if_neg c14).trans ((if_neg c16).trans ((if_neg c18).trans ((if_neg c20).trans ((if_pos c22).trans (rfl))))))))))))) dX0_step_374
                        · skip
                          by_cases c24 : (zx_unsignedByte u (zxg_pc u)) = 128
                          · refine lv_lookup (off := 192) (tgt := 218) hx hb dX0_step_26 (by decide) (z_sw c24 (by decide)) (by decide) ?_
                            refine lv_aload_n hx hb dX0_step_218 rfl (lv_at hl 1 rfl) ?_
                            refine lv_iload_n hx hb dX0_step_219 rfl (lv_at hl 0 rfl) ?_
                            refine zxK_combine C hP hS hl.1 (by decide) (Nat.le_of_ble_eq_true rfl) dX0_step_220 (fun u25 H locs hu25 hP hS => ?_)
                            refine lv_goto (tgt := 374) hx hb dX0_step_223 (by decide) ?_
                            exact zx_vret C hr hlk hP hS (by subst hu25; exact (if_neg c1).trans ((if_neg c2).trans ((if_neg c4).trans ((if_neg c6).trans ((if_neg c8).trans ((if_neg c10).trans ((if_neg c12).trans ((if_neg c14).trans ((if_neg c16).trans ((if_neg c18).trans ((if_neg c20).trans ((if_neg c22).trans ((if_pos c24).trans (rfl)))))))))))))) dX0_step_374
                          · skip
                            by_cases c26 : (zx_unsignedByte u (zxg_pc u)) = 132
                            · refine lv_lookup (off := 262) (tgt := 288) hx hb dX0_step_26 (by decide) (z_sw c26 (by decide)) (by decide) ?_
                              refine lv_aload_n hx hb dX0_step_288 rfl (lv_at hl 1 rfl) ?_
                              refine zxK_increase C hP hS hl.1 (by decide) (Nat.le_of_ble_eq_true rfl) dX0_step_289 (fun u27 H locs hu27 hP hS => ?_)
                              refine lv_goto (tgt := 374) hx hb dX0_step_292 (by decide) ?_
                              exact zx_vret C hr hlk hP hS (by subst hu27; exact (if_neg c1).trans ((if_neg c2).trans ((if_neg c4).trans ((if_neg c6).trans ((if_neg c8).trans ((if_neg c10).trans ((if_neg c12).trans ((if_neg c14).trans ((if_neg c16).trans ((if_neg c18).trans ((if_neg c20).trans ((if_neg c22).trans ((if_neg c24).trans ((if_pos c26).trans (rfl))))))))))))))) dX0_step_374
                            · skip
                              by_cases c28 : (zx_unsignedByte u (zxg_pc u)) = 153
                              · refine lv_lookup (off := 297) (tgt := 323) hx hb dX0_step_26 (by decide) (z_sw c28 (by decide)) (by decide) ?_
                                refine lv_aload_n hx hb dX0_step_323 rfl (lv_at hl 1 rfl) ?_
                                refine lv_aload_n hx hb dX0_step_324 rfl (lv_at hl 1 rfl) ?_
                                refine zxG_top C hP dX0_step_325 ?_
                                refine lv_if_ne (tgt := 335) hx hb dX0_step_328 (by decide) (fun c29 => ?_) (fun c29 => ?_)
                                · refine lv_iconst (v := 0) hx hb dX0_step_335 (by decide) ?_
                                  refine zxK_jumpOnTop C hP hS hl.1 (by decide) (Nat.le_of_ble_eq_true rfl) dX0_step_336 (fun u30 H locs hu30 hP hS => ?_)
                                  refine lv_goto (tgt := 374) hx hb dX0_step_339 (by decide) ?_
                                  exact zx_vret C hr hlk hP hS (by subst hu30; exact (if_neg c1).trans ((if_neg c2).trans ((if_neg c4).trans ((if_neg c6).trans ((if_neg c8).trans ((if_neg c10).trans ((if_neg c12).trans ((if_neg c14).trans ((if_neg c16).trans ((if_neg c18).trans ((if_neg c20).trans ((if_neg c22).trans ((if_neg c24).trans ((if_neg c26).trans ((if_pos c28).trans ((if_neg c29).trans (rfl))))))))))))))))) dX0_step_374
                                · refine lv_iconst (v := 1) hx hb dX0_step_331 (by decide) ?_
                                  refine lv_goto (tgt := 336) hx hb dX0_step_332 (by decide) ?_
                                  refine zxK_jumpOnTop C hP hS hl.1 (by decide) (Nat.le_of_ble_eq_true rfl) dX0_step_336 (fun u31 H locs hu31 hP hS => ?_)
                                  refine lv_goto (tgt := 374) hx hb dX0_step_339 (by decide) ?_
                                  exact zx_vret C hr hlk hP hS (by subst hu31; exact (if_neg c1).trans ((if_neg c2).trans ((if_neg c4).trans ((if_neg c6).trans ((if_neg c8).trans ((if_neg c10).trans ((if_neg c12).trans ((if_neg c14).trans ((if_neg c16).trans ((if_neg c18).trans ((if_neg c20).trans ((if_neg c22).trans ((if_neg c24).trans ((if_neg c26).trans ((if_pos c28).trans ((if_pos c29).trans (rfl))))))))))))))))) dX0_step_374
                              · skip
                                by_cases c32 : (zx_unsignedByte u (zxg_pc u)) = 155
                                · refine lv_lookup (off := 278) (tgt := 304) hx hb dX0_step_26 (by decide) (z_sw c32 (by decide)) (by decide) ?_
                                  refine lv_aload_n hx hb dX0_step_304 rfl (lv_at hl 1 rfl) ?_
                                  refine lv_aload_n hx hb dX0_step_305 rfl (lv_at hl 1 rfl) ?_
                                  refine zxG_top C hP dX0_step_306 ?_
                                  refine lv_if_ge (tgt := 316) hx hb dX0_step_309 (by decide) (fun c33 => ?_) (fun c33 => ?_)
                                  · refine lv_iconst (v := 0) hx hb dX0_step_316 (by decide) ?_
                                    refine zxK_jumpOnTop C hP hS hl.1 (by decide) (Nat.le_of_ble_eq_true rfl) dX0_step_317 (fun u34 H locs hu34 hP hS => ?_)
                                    refine lv_goto (tgt := 374) hx hb dX0_step_320 (by decide) ?_
                                    exact zx_vret C hr hlk hP hS (by subst hu34; exact (if_neg c1).trans ((if_neg c2).trans ((if_neg c4).trans ((if_neg c6).trans ((if_neg c8).trans ((if_neg c10).trans ((if_neg c12).trans ((if_neg c14).trans ((if_neg c16).trans ((if_neg c18).trans ((if_neg c20).trans ((if_neg c22).trans ((if_neg c24).trans ((if_neg c26).trans ((if_neg c28).trans ((if_pos c32).trans ((if_pos c33).trans (rfl)))))))))))))))))) dX0_step_374
                                  · refine lv_iconst (v := 1) hx hb dX0_step_312 (by decide) ?_
                                    refine lv_goto (tgt := 317) hx hb dX0_step_313 (by decide) ?_
                                    refine zxK_jumpOnTop C hP hS hl.1 (by decide) (Nat.le_of_ble_eq_true rfl) dX0_step_317 (fun u35 H locs hu35 hP hS => ?_)
                                    refine lv_goto (tgt := 374) hx hb dX0_step_320 (by decide) ?_
                                    exact zx_vret C hr hlk hP hS (by subst hu35; exact (if_neg c1).trans ((if_neg c2).trans ((if_neg c4).trans ((if_neg c6).trans ((if_neg c8).trans ((if_neg c10).trans ((if_neg c12).trans ((if_neg c14).trans ((if_neg c16).trans ((if_neg c18).trans ((if_neg c20).trans ((if_neg c22).trans ((if_neg c24).trans ((if_neg c26).trans ((if_neg c28).trans ((if_pos c32).trans ((if_neg c33).trans (rfl)))))))))))))))))) dX0_step_374
                                · skip
                                  by_cases c36 : (zx_unsignedByte u (zxg_pc u)) = 159
                                  · refine lv_lookup (off := 316) (tgt := 342) hx hb dX0_step_26 (by decide) (z_sw c36 (by decide)) (by decide) ?_
                                    refine lv_aload_n hx hb dX0_step_342 rfl (lv_at hl 1 rfl) ?_
                                    refine zxK_jumpOnLike C hP hS hl.1 (by decide) (Nat.le_of_ble_eq_true rfl) dX0_step_343 (fun u37 H locs hu37 hP hS => ?_)
                                    refine lv_goto (tgt := 374) hx hb dX0_step_346 (by decide) ?_
                                    exact zx_vret C hr hlk hP hS (by subst hu37; exact (if_neg c1).trans ((if_neg c2).trans ((if_neg c4).trans ((if_neg c6).trans ((if_neg c8).trans ((if_neg c10).trans ((if_neg c12).trans ((if_neg c14).trans ((if_neg c16).trans ((if_neg c18).trans ((if_neg c20).trans ((if_neg c22).trans ((if_neg c24).trans ((if_neg c26).trans ((if_neg c28).trans ((if_neg c32).trans ((if_pos c36).trans (rfl)))))))))))))))))) dX0_step_374
                                  · skip
                                    by_cases c38 : (zx_unsignedByte u (zxg_pc u)) = 167
                                    · refine lv_lookup (off := 269) (tgt := 295) hx hb dX0_step_26 (by decide) (z_sw c38 (by decide)) (by decide) ?_
                                      refine lv_aload_n hx hb dX0_step_295 rfl (lv_at hl 1 rfl) ?_
                                      refine lv_bipush (v := 7) hx hb dX0_step_296 (by decide) ?_
                                      refine zxK_jump C hP hS hl.1 (by decide) (Nat.le_of_ble_eq_true rfl) dX0_step_298 (fun u39 H locs hu39 hP hS => ?_)
                                      refine lv_goto (tgt := 374) hx hb dX0_step_301 (by decide) ?_
                                      exact zx_vret C hr hlk hP hS (by subst hu39; exact (if_neg c1).trans ((if_neg c2).trans ((if_neg c4).trans ((if_neg c6).trans ((if_neg c8).trans ((if_neg c10).trans ((if_neg c12).trans ((if_neg c14).trans ((if_neg c16).trans ((if_neg c18).trans ((if_neg c20).trans ((if_neg c22).trans ((if_neg c24).trans ((if_neg c26).trans ((if_neg c28).trans ((if_neg c32).trans ((if_neg c36).trans ((if_pos c38).trans (rfl))))))))))))))))))) dX0_step_374
                                    · skip
                                      by_cases c40 : (zx_unsignedByte u (zxg_pc u)) = 172
                                      · refine lv_lookup (off := 330) (tgt := 356) hx hb dX0_step_26 (by decide) (z_sw c40 (by decide)) (by decide) ?_
                                        refine lv_aload_n hx hb dX0_step_356 rfl (lv_at hl 1 rfl) ?_
                                        refine zxK_leave C hP hS hl.1 (by decide) (Nat.le_of_ble_eq_true rfl) dX0_step_357 (fun u41 H locs hu41 hP hS => ?_)
                                        refine lv_goto (tgt := 374) hx hb dX0_step_360 (by decide) ?_
                                        exact zx_vret C hr hlk hP hS (by subst hu41; exact (if_neg c1).trans ((if_neg c2).trans ((if_neg c4).trans ((if_neg c6).trans ((if_neg c8).trans ((if_neg c10).trans ((if_neg c12).trans ((if_neg c14).trans ((if_neg c16).trans ((if_neg c18).trans ((if_neg c20).trans ((if_neg c22).trans ((if_neg c24).trans ((if_neg c26).trans ((if_neg c28).trans ((if_neg c32).trans ((if_neg c36).trans ((if_neg c38).trans ((if_pos c40).trans (rfl)))))))))))))))))))) dX0_step_374
                                      · skip
                                        by_cases c42 : (zx_unsignedByte u (zxg_pc u)) = 182
                                        · refine lv_lookup (off := 323) (tgt := 349) hx hb dX0_step_26 (by decide) (z_sw c42 (by decide)) (by decide) ?_
                                          refine lv_aload_n hx hb dX0_step_349 rfl (lv_at hl 1 rfl) ?_
                                          refine zxK_enter C hP hS hl.1 (by decide) (Nat.le_of_ble_eq_true rfl) dX0_step_350 (fun u43 H locs hu43 hP hS => ?_)
                                          refine lv_goto (tgt := 374) hx hb dX0_step_353 (by decide) ?_
                                          exact zx_vret C hr hlk hP hS (by subst hu43; exact (if_neg c1).trans ((if_neg c2).trans ((if_neg c4).trans ((if_neg c6).trans ((if_neg c8).trans ((if_neg c10).trans ((if_neg c12).trans ((if_neg c14).trans ((if_neg c16).trans ((if_neg c18).trans ((if_neg c20).trans ((if_neg c22).trans ((if_neg c24).trans ((if_neg c26).trans ((if_neg c28).trans ((if_neg c32).trans ((if_neg c36).trans ((if_neg c38).trans ((if_neg c40).trans ((if_pos c42).trans (rfl))))))))))))))))))))) dX0_step_374
                                        · skip
                                          by_cases c44 : (zx_unsignedByte u (zxg_pc u)) = 196
                                          · refine lv_lookup (off := 248) (tgt := 274) hx hb dX0_step_26 (by decide) (z_sw c44 (by decide)) (by decide) ?_
                                            refine lv_aload_n hx hb dX0_step_274 rfl (lv_at hl 1 rfl) ?_
                                            refine zxK_wide C hP hS hl.1 (by decide) (Nat.le_of_ble_eq_true rfl) dX0_step_275 (fun u45 H locs hu45 hP hS => ?_)
                                            refine lv_goto (tgt := 374) hx hb dX0_step_278 (by decide) ?_
                                            exact zx_vret C hr hlk hP hS (by subst hu45; exact (if_neg c1).trans ((if_neg c2).trans ((if_neg c4).trans ((if_neg c6).trans ((if_neg c8).trans ((if_neg c10).trans ((if_neg c12).trans ((if_neg c14).trans ((if_neg c16).trans ((if_neg c18).trans ((if_neg c20).trans ((if_neg c22).trans ((if_neg c24).trans ((if_neg c26).trans ((if_neg c28).trans ((if_neg c32).trans ((if_neg c36).trans ((if_neg c38).trans ((if_neg c40).trans ((if_neg c42).trans ((if_pos c44).trans (rfl)))))))))))))))))))))) dX0_step_374
                                          · skip
                                            by_cases c46 : (zx_unsignedByte u (zxg_pc u)) = 255
                                            · refine lv_lookup (off := 337) (tgt := 363) hx hb dX0_step_26 (by decide) (z_sw c46 (by decide)) (by decide) ?_
                                              refine lv_aload_n hx hb dX0_step_363 rfl (lv_at hl 1 rfl) ?_
                                              refine zxK_halt C hP hS hl.1 (by decide) (Nat.le_of_ble_eq_true rfl) dX0_step_364 (fun u47 H locs hu47 hP hS => ?_)
                                              refine lv_goto (tgt := 374) hx hb dX0_step_367 (by decide) ?_
                                              exact zx_vret C hr hlk hP hS (by subst hu47; exact (if_neg c1).trans ((if_neg c2).trans ((if_neg c4).trans ((if_neg c6).trans ((if_neg c8).trans ((if_neg c10).trans ((if_neg c12).trans ((if_neg c14).trans ((if_neg c16).trans ((if_neg c18).trans ((if_neg c20).trans ((if_neg c22).trans ((if_neg c24).trans ((if_neg c26).trans ((if_neg c28).trans ((if_neg c32).trans ((if_neg c36).trans ((if_neg c38).trans ((if_neg c40).trans ((if_neg c42).trans ((if_neg c44).trans ((if_pos c46).trans (rfl))))))))))))))))))))))) dX0_step_374
                                            · skip
                                              refine lv_lookup (off := 344) (tgt := 370) hx hb dX0_step_26 (by decide) ((lv_osw c2 (by decide)).trans ((lv_osw c4 (by decide)).trans ((lv_osw c6 (by decide)).trans ((lv_osw c8 (by decide)).trans ((lv_osw c10 (by decide)).trans ((lv_osw c12 (by decide)).trans ((lv_osw c14 (by decide)).trans ((lv_osw c16 (by decide)).trans ((lv_osw c18 (by decide)).trans ((lv_osw c20 (by decide)).trans ((lv_osw c22 (by decide)).trans ((lv_osw c24 (by decide)).trans ((lv_osw c26 (by decide)).trans ((lv_osw c28 (by decide)).trans ((lv_osw c32 (by decide)).trans ((lv_osw c36 (by decide)).trans ((lv_osw c38 (by decide)).trans ((lv_osw c40 (by decide)).trans ((lv_osw c42 (by decide)).trans ((lv_osw c44 (by decide)).trans ((lv_osw c46 (by decide)).trans (rfl)))))))))))))))))))))) (by decide) ?_
                                              refine lv_aload_n hx hb dX0_step_370 rfl (lv_at hl 1 rfl) ?_
                                              refine zxK_trap C hP hS hl.1 (by decide) (Nat.le_of_ble_eq_true rfl) dX0_step_371 (fun u48 H locs hu48 hP hS => ?_)
                                              exact zx_vret C hr hlk hP hS (by subst hu48; exact (if_neg c1).trans ((if_neg c2).trans ((if_neg c4).trans ((if_neg c6).trans ((if_neg c8).trans ((if_neg c10).trans ((if_neg c12).trans ((if_neg c14).trans ((if_neg c16).trans ((if_neg c18).trans ((if_neg c20).trans ((if_neg c22).trans ((if_neg c24).trans ((if_neg c26).trans ((if_neg c28).trans ((if_neg c32).trans ((if_neg c36).trans ((if_neg c38).trans ((if_neg c40).trans ((if_neg c42).trans ((if_neg c44).trans ((if_neg c46).trans (rfl))))))))))))))))))))))) dX0_step_374
  · refine lv_aload_n hx hb dX0_step_11 rfl (lv_at hl 0 rfl) ?_
    refine zxK_fault C hP hS hl.1 (by decide) (Nat.le_of_ble_eq_true rfl) dX0_step_12 (fun u49 H locs hu49 hP hS => ?_)
    exact zx_vret C hr hlk hP hS (by subst hu49; exact (if_pos c1).trans (rfl)) dX0_step_15
end
section
def zx_boot (u : Zxs) (a1 a2 a3 a4 : Int32) : Zxs :=
  let u1 := zxs_pc u a1
  let u2 := zxs_sp u1 a2
  let u3 := zxs_lv u2 a3
  let u4 := zxs_cpp u3 a4
  if (zx_isWord a2) = 0 then (
    let u6 := zxs_top u4 0
    let u7 := zxs_state u6 0
    let u8 := zxs_cycles u7 0
    let u9 := zxs_instructions u8 0
    u9)
  else (
    let u10 := zxs_top u4 (zxg_words u4 a2.toNatClampNeg)
    let u11 := zxs_state u10 0
    let u12 := zxs_cycles u11 0
    let u13 := zxs_instructions u12 0
    u13)
set_option maxHeartbeats 4000000 in
set_option maxRecDepth 100000 in
theorem zxM_boot (l : Launch) (k : Zxk) (Dk : ZxD k) (u : Zxs) (a1 a2 a3 a4 : Int32) : Met l yX0_boot (.code yX0_boot cX0_boot 5 none :: wsX0_step) (zrm 1) (ZxB k [.ref (zxa_this k), .int a1, .int a2, .int a3, .int a4] u) (ZxQ k none (zx_boot u a1 a2 a3 a4)) 0 0 (ZxA k) := by
  refine zxE_in (by decide) rfl (Nat.le_of_ble_eq_true rfl) Dk ?_
  intro p e s m below meth c ls C hr hlk hP hl
  have hx := C.1.1
  have hb := C.1.2.1
  have hl : lv_has ls 5 [(0, .ref (zxa_this k)), (1, .int a1), (2, .int a2), (3, .int a3), (4, .int a4)] := hl
  have hS : va_S (ZxA k) s.heap s.heap [] := va_S.rf
  refine lv_aload_n hx hb dX0_boot_0 rfl (lv_at hl 0 rfl) ?_
  refine lv_iload_n hx hb dX0_boot_1 rfl (lv_at hl 1 rfl) ?_
  refine zxP_pc C hP hS dX0_boot_2 (fun u1 H locs hu1 hP hS => ?_)
  refine lv_aload_n hx hb dX0_boot_5 rfl (lv_at hl 0 rfl) ?_
  refine lv_iload_n hx hb dX0_boot_6 rfl (lv_at hl 2 rfl) ?_
  refine zxP_sp C hP hS dX0_boot_7 (fun u2 H locs hu2 hP hS => ?_)
  refine lv_aload_n hx hb dX0_boot_10 rfl (lv_at hl 0 rfl) ?_
  refine lv_iload_n hx hb dX0_boot_11 rfl (lv_at hl 3 rfl) ?_
  refine zxP_lv C hP hS dX0_boot_12 (fun u3 H locs hu3 hP hS => ?_)
  refine lv_aload_n hx hb dX0_boot_15 rfl (lv_at hl 0 rfl) ?_
  refine lv_iload hx hb dX0_boot_16 (lv_at hl 4 rfl) ?_
  refine zxP_cpp C hP hS dX0_boot_18 (fun u4 H locs hu4 hP hS => ?_)
  refine lv_aload_n hx hb dX0_boot_21 rfl (lv_at hl 0 rfl) ?_
  refine lv_iload_n hx hb dX0_boot_22 rfl (lv_at hl 2 rfl) ?_
  refine zxK_isWord C hl.1 (by decide) (Nat.le_of_ble_eq_true rfl) dX0_boot_23 ?_
  refine lv_if_eq (tgt := 38) hx hb dX0_boot_26 (by decide) (fun c5 => ?_) (fun c5 => ?_)
  · refine lv_iconst (v := 0) hx hb dX0_boot_38 (by decide) ?_
    refine zxP_top C hP hS dX0_boot_39 (fun u6 H locs hu6 hP hS => ?_)
    refine lv_aload_n hx hb dX0_boot_42 rfl (lv_at hl 0 rfl) ?_
    refine lv_iconst (v := 0) hx hb dX0_boot_43 (by decide) ?_
    refine zxP_state C hP hS dX0_boot_44 (fun u7 H locs hu7 hP hS => ?_)
    refine lv_aload_n hx hb dX0_boot_47 rfl (lv_at hl 0 rfl) ?_
    refine lv_iconst (v := 0) hx hb dX0_boot_48 (by decide) ?_
    refine zxP_cycles C hP hS dX0_boot_49 (fun u8 H locs hu8 hP hS => ?_)
    refine lv_aload_n hx hb dX0_boot_52 rfl (lv_at hl 0 rfl) ?_
    refine lv_iconst (v := 0) hx hb dX0_boot_53 (by decide) ?_
    refine zxP_instructions C hP hS dX0_boot_54 (fun u9 H locs hu9 hP hS => ?_)
    exact zx_vret C hr hlk hP hS (by subst hu1 hu2 hu3 hu4 hu6 hu7 hu8 hu9; exact (if_pos c5).trans (rfl)) dX0_boot_57
  · refine lv_aload_n hx hb dX0_boot_29 rfl (lv_at hl 0 rfl) ?_
    refine zxG_words C hP dX0_boot_30 ?_
    refine lv_iload_n hx hb dX0_boot_33 rfl (lv_at hl 2 rfl) ?_
    refine zxL_words C hP (by first | with_reducible assumption | with_reducible exact zx_in (by with_reducible assumption) | with_reducible exact zx_b10 (by with_reducible assumption) | with_reducible exact zx_b21 (by with_reducible assumption) | with_reducible exact zx_b31 (by with_reducible assumption) | with_reducible exact zx_b32 (by with_reducible assumption) | with_reducible exact zx_b42 (by with_reducible assumption) | with_reducible exact zx_b43 (by with_reducible assumption) | with_reducible exact zx_b33 (by with_reducible assumption) | with_reducible exact zx_b40 (by with_reducible assumption) | with_reducible exact zx_b41 (by with_reducible assumption)) dX0_boot_34 ?_
    refine lv_goto (tgt := 39) hx hb dX0_boot_35 (by decide) ?_
    refine zxP_top C hP hS dX0_boot_39 (fun u10 H locs hu10 hP hS => ?_)
    refine lv_aload_n hx hb dX0_boot_42 rfl (lv_at hl 0 rfl) ?_
    refine lv_iconst (v := 0) hx hb dX0_boot_43 (by decide) ?_
    refine zxP_state C hP hS dX0_boot_44 (fun u11 H locs hu11 hP hS => ?_)
    refine lv_aload_n hx hb dX0_boot_47 rfl (lv_at hl 0 rfl) ?_
    refine lv_iconst (v := 0) hx hb dX0_boot_48 (by decide) ?_
    refine zxP_cycles C hP hS dX0_boot_49 (fun u12 H locs hu12 hP hS => ?_)
    refine lv_aload_n hx hb dX0_boot_52 rfl (lv_at hl 0 rfl) ?_
    refine lv_iconst (v := 0) hx hb dX0_boot_53 (by decide) ?_
    refine zxP_instructions C hP hS dX0_boot_54 (fun u13 H locs hu13 hP hS => ?_)
    exact zx_vret C hr hlk hP hS (by subst hu1 hu2 hu3 hu4 hu10 hu11 hu12 hu13; exact (if_neg c5).trans (rfl)) dX0_boot_57
end
section
def zt_isWord (a1 : Int32) : Int32 :=
  if a1 < 0 then (
    0)
  else (
    if 256 ≤ a1 then (
      0)
    else (
      1))
set_option maxHeartbeats 4000000 in
set_option maxRecDepth 100000 in
theorem ztM_isWord (l : Launch) (a1 : Int32) : Met l yX1_isWord (.code yX1_isWord cX1_isWord 1 (some .boolean) :: zwT) (zrm 0) (fun a _ => a = ([.int a1] : List Value).toArray) (QcRead (zt_isWord a1)) 0 0 (fun _ => False) := by
  refine z_enterS (by decide) (Nat.le_of_ble_eq_true rfl) ?_
  intro p e s m below meth c ls hx hb hr hlk hl
  have hl : lv_has ls 1 [(0, .int a1)] := hl
  refine lv_iload_n hx hb dX1_isWord_0 rfl (lv_at hl 0 rfl) ?_
  refine lv_if_lt (tgt := 15) hx hb dX1_isWord_1 (by decide) (fun c1 => ?_) (fun c1 => ?_)
  · refine lv_iconst (v := 0) hx hb dX1_isWord_15 (by decide) ?_
    exact z_sret hx hb hr rfl hlk (by exact (if_pos c1).trans (rfl)) dX1_isWord_16
  · refine lv_iload_n hx hb dX1_isWord_4 rfl (lv_at hl 0 rfl) ?_
    refine lv_sipush (v := 256) hx hb dX1_isWord_5 (by decide) ?_
    refine lv_icmp_ge (tgt := 15) hx hb dX1_isWord_8 (by decide) (fun c2 => ?_) (fun c2 => ?_)
    · refine lv_iconst (v := 0) hx hb dX1_isWord_15 (by decide) ?_
      exact z_sret hx hb hr rfl hlk (by exact (if_neg c1).trans ((if_pos c2).trans (rfl))) dX1_isWord_16
    · refine lv_iconst (v := 1) hx hb dX1_isWord_11 (by decide) ?_
      refine lv_goto (tgt := 16) hx hb dX1_isWord_12 (by decide) ?_
      exact z_sret hx hb hr rfl hlk (by exact (if_neg c1).trans ((if_neg c2).trans (rfl))) dX1_isWord_16
section
variable {p : Program} {l : Launch} {e : Env} {R : Room} {s : State} {m : MethodId} {args : Array Value} {below : List Frame} {meth : Method} {c : Code} {H : Heap} {locs : List Loc} {Q : State → Prop} {cc : ByteArray} {pc nL : Nat} {ls : Array Slot} {rest : List Value} {k : Ztk} {u : Zts} {H0 : Heap}
set_option maxHeartbeats 4000000 in
set_option maxRecDepth 100000 in
theorem ztK_isWord {a1 : Int32} (C : ZtC p s m args c cc nL k) (hsz : ls.size = nL) (hR : 0 + 1 ≤ R.frames ∧ 8 + (1 + 11) + 40 * 0 ≤ R.locals) (hw : (rest.map fun v => v.category).sum ≤ 8) (hdg : decode cc pc = .ok (.invokestatic 26, 3)) (kk : W p l e R s m args below meth c H locs 0 0 Q (F0 m (pc + 3) ls (.int (zt_isWord a1) :: rest))) : W p l e R s m args below meth c H locs 0 0 Q (F0 m pc ls (.int a1 :: rest)) :=
  zt_callS (y := yX1_isWord) (n := 1) C (ztM_isWord l a1 ) zwT_c_isWord zwT_l_isWord zwT_s_isWord rfl (by decide +kernel) hsz hR hw rfl hdg kk
end
def zt_signed (a1 a2 : Int32) : Int32 :=
  (a1 <<< ((32 - a2) &&& 31)) >>> ((32 - a2) &&& 31)
set_option maxHeartbeats 4000000 in
set_option maxRecDepth 100000 in
theorem ztM_signed (l : Launch) (a1 a2 : Int32) : Met l yX1_signed (.code yX1_signed cX1_signed 2 (some .int) :: zwT) (zrm 0) (fun a _ => a = ([.int a1, .int a2] : List Value).toArray) (QcRead (zt_signed a1 a2)) 0 0 (fun _ => False) := by
  refine z_enterS (by decide) (Nat.le_of_ble_eq_true rfl) ?_
  intro p e s m below meth c ls hx hb hr hlk hl
  have hl : lv_has ls 2 [(0, .int a1), (1, .int a2)] := hl
  refine lv_iload_n hx hb dX1_signed_0 rfl (lv_at hl 0 rfl) ?_
  refine lv_bipush (v := 32) hx hb dX1_signed_1 (by decide) ?_
  refine lv_iload_n hx hb dX1_signed_3 rfl (lv_at hl 1 rfl) ?_
  refine lv_isub hx hb dX1_signed_4 ?_
  refine lv_ishl hx hb dX1_signed_5 ?_
  refine lv_bipush (v := 32) hx hb dX1_signed_6 (by decide) ?_
  refine lv_iload_n hx hb dX1_signed_8 rfl (lv_at hl 1 rfl) ?_
  refine lv_isub hx hb dX1_signed_9 ?_
  refine lv_ishr hx hb dX1_signed_10 ?_
  exact z_sret hx hb hr rfl hlk (by exact rfl) dX1_signed_11
section
variable {p : Program} {l : Launch} {e : Env} {R : Room} {s : State} {m : MethodId} {args : Array Value} {below : List Frame} {meth : Method} {c : Code} {H : Heap} {locs : List Loc} {Q : State → Prop} {cc : ByteArray} {pc nL : Nat} {ls : Array Slot} {rest : List Value} {k : Ztk} {u : Zts} {H0 : Heap}
set_option maxHeartbeats 4000000 in
set_option maxRecDepth 100000 in
theorem ztK_signed {a1 a2 : Int32} (C : ZtC p s m args c cc nL k) (hsz : ls.size = nL) (hR : 0 + 1 ≤ R.frames ∧ 8 + (2 + 11) + 40 * 0 ≤ R.locals) (hw : (rest.map fun v => v.category).sum ≤ 8) (hdg : decode cc pc = .ok (.invokestatic 88, 3)) (kk : W p l e R s m args below meth c H locs 0 0 Q (F0 m (pc + 3) ls (.int (zt_signed a1 a2) :: rest))) : W p l e R s m args below meth c H locs 0 0 Q (F0 m pc ls (.int a2 :: .int a1 :: rest)) :=
  zt_callS (y := yX1_signed) (n := 2) C (ztM_signed l a1 a2 ) zwT_c_signed zwT_l_signed zwT_s_signed rfl (by decide +kernel) hsz hR hw rfl hdg kk
end

theorem zt_in {x : Int32} (h : ¬ zt_isWord x = 0) : vp_in x 256 := by
  unfold zt_isWord at h
  by_cases a : x < 0
  · rw [if_pos a] at h; exact absurd rfl h
  rw [if_neg a] at h
  by_cases b : 256 ≤ x
  · rw [if_pos b] at h; exact absurd rfl h
  obtain ⟨q, hq, rfl⟩ := nI_of a
  exact vp_in_nI (Nat.lt_of_not_le (fun g => b (nI_le g hq))) (by decide)
theorem zt_inb {x : Int32} (a : ¬ x < 0) (b : ¬ 512 ≤ x) : vp_in x 512 := by
  obtain ⟨q, hq, rfl⟩ := nI_of a
  exact vp_in_nI (Nat.lt_of_not_le (fun g => b (nI_le g hq))) (by decide)
/-- the words as they were before the last j writes, by the notes of places and of what stood there -/
def zundo (pl bf : Nat → Int32) : Nat → (Nat → Int32) → (Nat → Int32)
  | 0, w => w
  | j + 1, w => zundo pl bf j (upd w (pl j).toNatClampNeg (bf j))
theorem zundo_congr {pl bf pl' bf' : Nat → Int32} : ∀ (j : Nat) (w : Nat → Int32), (∀ i, i < j → pl i = pl' i ∧ bf i = bf' i) → zundo pl bf j w = zundo pl' bf' j w
  | 0, _, _ => rfl
  | j + 1, w, h => by
    unfold zundo
    rw [(h j (Nat.lt_succ_self j)).1, (h j (Nat.lt_succ_self j)).2]
    exact zundo_congr j _ (fun i hi => h i (Nat.lt_succ_of_lt hi))
/-- at most n writes are noted, at places that are there, and undoing them gives the words w0 -/
def ZtG (w0 : Nat → Int32) (n : Nat) (u : Zts) : Prop := ∃ j : Nat, j ≤ n ∧ ztg_writes u = nI j ∧ (∀ i, i < j → ∃ q : Nat, q < 256 ∧ ztg_places u i = nI q) ∧ zundo (ztg_places u) (ztg_before u) j (ztg_words u) = w0
theorem zt_Gle {w0 : Nat → Int32} {m n : Nat} {u : Zts} (h : m ≤ n) (g : ZtG w0 m u) : ZtG w0 n u := by
  obtain ⟨j, h1, h2⟩ := g
  exact ⟨j, Nat.le_trans h1 h, h2⟩
theorem zt_in8 {w0 : Nat → Int32} {u : Zts} (h : ZtG w0 7 u) : vp_in (ztg_writes u) 8 := by
  obtain ⟨j, h1, h2, -⟩ := h
  rw [h2]
  exact vp_in_nI (by omega) (by decide)
theorem zt_Gs_thrown {w0 : Nat → Int32} {n : Nat} {u : Zts} (v : Int32) (h : ZtG w0 n u) : ZtG w0 n (zts_thrown u v) := h
theorem zt_Gs_pc {w0 : Nat → Int32} {n : Nat} {u : Zts} (v : Int32) (h : ZtG w0 n u) : ZtG w0 n (zts_pc u v) := h
theorem zt_Gs_sp {w0 : Nat → Int32} {n : Nat} {u : Zts} (v : Int32) (h : ZtG w0 n u) : ZtG w0 n (zts_sp u v) := h
theorem zt_Gs_lv {w0 : Nat → Int32} {n : Nat} {u : Zts} (v : Int32) (h : ZtG w0 n u) : ZtG w0 n (zts_lv u v) := h
theorem zt_Gs_cpp {w0 : Nat → Int32} {n : Nat} {u : Zts} (v : Int32) (h : ZtG w0 n u) : ZtG w0 n (zts_cpp u v) := h
theorem zt_Gs_top {w0 : Nat → Int32} {n : Nat} {u : Zts} (v : Int32) (h : ZtG w0 n u) : ZtG w0 n (zts_top u v) := h
theorem zt_Gs_state {w0 : Nat → Int32} {n : Nat} {u : Zts} (v : Int32) (h : ZtG w0 n u) : ZtG w0 n (zts_state u v) := h
theorem zt_Gs_cycles {w0 : Nat → Int32} {n : Nat} {u : Zts} (v : Int32) (h : ZtG w0 n u) : ZtG w0 n (zts_cycles u v) := h
theorem zt_Gs_done {w0 : Nat → Int32} {n : Nat} {u : Zts} (v : Int32) (h : ZtG w0 n u) : ZtG w0 n (zts_done u v) := h
theorem zt_Gs_next {w0 : Nat → Int32} {n : Nat} {u : Zts} (v : Int32) (h : ZtG w0 n u) : ZtG w0 n (zts_next u v) := h
theorem zt_Gs_amiss {w0 : Nat → Int32} {n : Nat} {u : Zts} (v : Int32) (h : ZtG w0 n u) : ZtG w0 n (zts_amiss u v) := h
theorem zt_Gs_unknown {w0 : Nat → Int32} {n : Nat} {u : Zts} (v : Int32) (h : ZtG w0 n u) : ZtG w0 n (zts_unknown u v) := h
def zt_read (u : Zts) (a1 : Int32) : Int32 × Zts :=
  if (ztg_amiss u) = 0 then (
    if (zt_isWord a1) = 0 then (
      let u7 := zts_amiss u 1
      if (zt_isWord a1) = 0 then (
        (0, u7))
      else (
        (ztg_words u7 a1.toNatClampNeg, u7)))
    else (
      let u5 := zts_amiss u 0
      if (zt_isWord a1) = 0 then (
        (0, u5))
      else (
        (ztg_words u5 a1.toNatClampNeg, u5))))
  else (
    let u2 := zts_amiss u 1
    if (zt_isWord a1) = 0 then (
      (0, u2))
    else (
      (ztg_words u2 a1.toNatClampNeg, u2)))
set_option maxHeartbeats 4000000 in
set_option maxRecDepth 100000 in
theorem ztM_read (l : Launch) (k : Ztk) (Dk : ZtD k) (u : Zts) (a1 : Int32) : Met l yX1_read (.code yX1_read cX1_read 2 (some .int) :: zwT) (zrm 1) (ZtB k [.ref (zta_this k), .int a1] u) (ZtQ k (some (.int (zt_read u a1).1)) (zt_read u a1).2) 0 0 (ZtA k) := by
  refine ztE_in (by decide) rfl (Nat.le_of_ble_eq_true rfl) Dk ?_
  intro p e s m below meth c ls C hr hlk hP hl
  have hx := C.1.1
  have hb := C.1.2.1
  have hl : lv_has ls 2 [(0, .ref (zta_this k)), (1, .int a1)] := hl
  have hS : va_S (ZtA k) s.heap s.heap [] := va_S.rf
  refine lv_aload_n hx hb dX1_read_0 rfl (lv_at hl 0 rfl) ?_
  refine lv_aload_n hx hb dX1_read_1 rfl (lv_at hl 0 rfl) ?_
  refine ztG_amiss C hP dX1_read_2 ?_
  refine lv_if_ne (tgt := 15) hx hb dX1_read_5 (by decide) (fun c1 => ?_) (fun c1 => ?_)
  · refine lv_iconst (v := 1) hx hb dX1_read_15 (by decide) ?_
    refine lv_goto (tgt := 20) hx hb dX1_read_16 (by decide) ?_
    refine ztP_amiss C hP hS rfl rfl dX1_read_20 (fun u2 H locs hu2 hP hS => ?_)
    refine lv_iload_n hx hb dX1_read_23 rfl (lv_at hl 1 rfl) ?_
    refine ztK_isWord C hl.1 (by decide) (Nat.le_of_ble_eq_true rfl) dX1_read_24 ?_
    refine lv_if_eq (tgt := 39) hx hb dX1_read_27 (by decide) (fun c3 => ?_) (fun c3 => ?_)
    · refine lv_iconst (v := 0) hx hb dX1_read_39 (by decide) ?_
      exact zt_iret C hr hlk hP hS (by subst hu2; exact (if_neg c1).trans ((if_pos c3).trans (rfl))) dX1_read_40
    · refine lv_aload_n hx hb dX1_read_30 rfl (lv_at hl 0 rfl) ?_
      refine ztG_words C hP dX1_read_31 ?_
      refine lv_iload_n hx hb dX1_read_34 rfl (lv_at hl 1 rfl) ?_
      refine ztL_words C hP (by first | with_reducible assumption | with_reducible exact zt_in (by with_reducible assumption) | with_reducible exact zt_inb (by with_reducible assumption) (by with_reducible assumption)) dX1_read_35 ?_
      refine lv_goto (tgt := 40) hx hb dX1_read_36 (by decide) ?_
      exact zt_iret C hr hlk hP hS (by subst hu2; exact (if_neg c1).trans ((if_neg c3).trans (rfl))) dX1_read_40
  · refine lv_iload_n hx hb dX1_read_8 rfl (lv_at hl 1 rfl) ?_
    refine ztK_isWord C hl.1 (by decide) (Nat.le_of_ble_eq_true rfl) dX1_read_9 ?_
    refine lv_if_ne (tgt := 19) hx hb dX1_read_12 (by decide) (fun c4 => ?_) (fun c4 => ?_)
    · refine lv_iconst (v := 0) hx hb dX1_read_19 (by decide) ?_
      refine ztP_amiss C hP hS rfl rfl dX1_read_20 (fun u5 H locs hu5 hP hS => ?_)
      refine lv_iload_n hx hb dX1_read_23 rfl (lv_at hl 1 rfl) ?_
      refine ztK_isWord C hl.1 (by decide) (Nat.le_of_ble_eq_true rfl) dX1_read_24 ?_
      refine lv_if_eq (tgt := 39) hx hb dX1_read_27 (by decide) (fun c6 => ?_) (fun c6 => ?_)
      · refine lv_iconst (v := 0) hx hb dX1_read_39 (by decide) ?_
        exact zt_iret C hr hlk hP hS (by subst hu5; exact (if_pos c1).trans ((if_neg c4).trans ((if_pos c6).trans (rfl)))) dX1_read_40
      · refine lv_aload_n hx hb dX1_read_30 rfl (lv_at hl 0 rfl) ?_
        refine ztG_words C hP dX1_read_31 ?_
        refine lv_iload_n hx hb dX1_read_34 rfl (lv_at hl 1 rfl) ?_
        refine ztL_words C hP (by first | with_reducible assumption | with_reducible exact zt_in (by with_reducible assumption) | with_reducible exact zt_inb (by with_reducible assumption) (by with_reducible assumption)) dX1_read_35 ?_
        refine lv_goto (tgt := 40) hx hb dX1_read_36 (by decide) ?_
        exact zt_iret C hr hlk hP hS (by subst hu5; exact (if_pos c1).trans ((if_neg c4).trans ((if_neg c6).trans (rfl)))) dX1_read_40
    · refine lv_iconst (v := 1) hx hb dX1_read_15 (by decide) ?_
      refine lv_goto (tgt := 20) hx hb dX1_read_16 (by decide) ?_
      refine ztP_amiss C hP hS rfl rfl dX1_read_20 (fun u7 H locs hu7 hP hS => ?_)
      refine lv_iload_n hx hb dX1_read_23 rfl (lv_at hl 1 rfl) ?_
      refine ztK_isWord C hl.1 (by decide) (Nat.le_of_ble_eq_true rfl) dX1_read_24 ?_
      refine lv_if_eq (tgt := 39) hx hb dX1_read_27 (by decide) (fun c8 => ?_) (fun c8 => ?_)
      · refine lv_iconst (v := 0) hx hb dX1_read_39 (by decide) ?_
        exact zt_iret C hr hlk hP hS (by subst hu7; exact (if_pos c1).trans ((if_pos c4).trans ((if_pos c8).trans (rfl)))) dX1_read_40
      · refine lv_aload_n hx hb dX1_read_30 rfl (lv_at hl 0 rfl) ?_
        refine ztG_words C hP dX1_read_31 ?_
        refine lv_iload_n hx hb dX1_read_34 rfl (lv_at hl 1 rfl) ?_
        refine ztL_words C hP (by first | with_reducible assumption | with_reducible exact zt_in (by with_reducible assumption) | with_reducible exact zt_inb (by with_reducible assumption) (by with_reducible assumption)) dX1_read_35 ?_
        refine lv_goto (tgt := 40) hx hb dX1_read_36 (by decide) ?_
        exact zt_iret C hr hlk hP hS (by subst hu7; exact (if_pos c1).trans ((if_pos c4).trans ((if_neg c8).trans (rfl)))) dX1_read_40
section
variable {p : Program} {l : Launch} {e : Env} {R : Room} {s : State} {m : MethodId} {args : Array Value} {below : List Frame} {meth : Method} {c : Code} {H : Heap} {locs : List Loc} {Q : State → Prop} {cc : ByteArray} {pc nL : Nat} {ls : Array Slot} {rest : List Value} {k : Ztk} {u : Zts} {H0 : Heap}
set_option maxHeartbeats 4000000 in
set_option maxRecDepth 100000 in
theorem ztK_read {a1 : Int32} (C : ZtC p s m args c cc nL k) (hP : ZtP k u H) (hS : va_S (ZtA k) H0 H locs) (hsz : ls.size = nL) (hR : 1 + 1 ≤ R.frames ∧ 8 + (2 + 11) + 40 * 1 ≤ R.locals) (hw : (rest.map fun v => v.category).sum ≤ 8) (hdg : decode cc pc = .ok (.invokevirtual 65, 3)) (kk : ∀ (r1 : Int32) (u1 : Zts) (H1 : Heap) (locs1 : List Loc), r1 = (zt_read u a1).1 → u1 = (zt_read u a1).2 → ZtP k u1 H1 → va_S (ZtA k) H0 H1 locs1 → W p l e R s m args below meth c H1 locs1 0 0 Q (F0 m (pc + 3) ls (.int r1 :: rest))) : W p l e R s m args below meth c H locs 0 0 Q (F0 m pc ls (.int a1 :: .ref (zta_this k) :: rest)) :=
  zt_callV (y := yX1_read) (n := 1) (As := [.int a1]) C (ztM_read l k C.2.2 u a1 ) zwT_c_read zwT_l_read zwT_i_read zwT_v_read rfl (by decide +kernel) hP hS hsz hR hw rfl hdg (fun H1 locs1 hP1 hS1 => kk _ _ H1 locs1 rfl rfl hP1 hS1)
end
theorem zt_G_read {w0 : Nat → Int32} {n : Nat} {u : Zts} (a1 : Int32) (h : ZtG w0 n u) : ZtG w0 (n + 0) (zt_read u a1).2 := by
  unfold zt_read
  dsimp only
  repeat' split
  all_goals first | exact zt_Gle (by omega) (zt_Gs_amiss _ (h))
def zt_write (u : Zts) (a1 a2 : Int32) : Zts :=
  if (ztg_amiss u) = 0 then (
    if (zt_isWord a1) = 0 then (
      let u15 := zts_amiss u 1
      if (zt_isWord a1) = 0 then (
        u15)
      else (
        let u17 := zts_places u15 (upd (ztg_places u15) (ztg_writes u15).toNatClampNeg a1)
        let u18 := zts_before u17 (upd (ztg_before u17) (ztg_writes u17).toNatClampNeg (ztg_words u17 a1.toNatClampNeg))
        let u19 := zts_writes u18 ((ztg_writes u18) + 1)
        let u20 := zts_words u19 (upd (ztg_words u19) a1.toNatClampNeg a2)
        u20))
    else (
      let u9 := zts_amiss u 0
      if (zt_isWord a1) = 0 then (
        u9)
      else (
        let u11 := zts_places u9 (upd (ztg_places u9) (ztg_writes u9).toNatClampNeg a1)
        let u12 := zts_before u11 (upd (ztg_before u11) (ztg_writes u11).toNatClampNeg (ztg_words u11 a1.toNatClampNeg))
        let u13 := zts_writes u12 ((ztg_writes u12) + 1)
        let u14 := zts_words u13 (upd (ztg_words u13) a1.toNatClampNeg a2)
        u14)))
  else (
    let u2 := zts_amiss u 1
    if (zt_isWord a1) = 0 then (
      u2)
    else (
      let u4 := zts_places u2 (upd (ztg_places u2) (ztg_writes u2).toNatClampNeg a1)
      let u5 := zts_before u4 (upd (ztg_before u4) (ztg_writes u4).toNatClampNeg (ztg_words u4 a1.toNatClampNeg))
      let u6 := zts_writes u5 ((ztg_writes u5) + 1)
      let u7 := zts_words u6 (upd (ztg_words u6) a1.toNatClampNeg a2)
      u7))
set_option maxHeartbeats 4000000 in
set_option maxRecDepth 100000 in
theorem ztM_write (l : Launch) (k : Ztk) (Dk : ZtD k) (u : Zts) (a1 a2 : Int32) {w0 : Nat → Int32} (hN : ZtG w0 7 u) : Met l yX1_write (.code yX1_write cX1_write 3 none :: zwT) (zrm 1) (ZtB k [.ref (zta_this k), .int a1, .int a2] u) (ZtQ k none (zt_write u a1 a2)) 0 0 (ZtA k) := by
  refine ztE_in (by decide) rfl (Nat.le_of_ble_eq_true rfl) Dk ?_
  intro p e s m below meth c ls C hr hlk hP hl
  have hx := C.1.1
  have hb := C.1.2.1
  have hl : lv_has ls 3 [(0, .ref (zta_this k)), (1, .int a1), (2, .int a2)] := hl
  have hS : va_S (ZtA k) s.heap s.heap [] := va_S.rf
  refine lv_aload_n hx hb dX1_write_0 rfl (lv_at hl 0 rfl) ?_
  refine lv_aload_n hx hb dX1_write_1 rfl (lv_at hl 0 rfl) ?_
  refine ztG_amiss C hP dX1_write_2 ?_
  refine lv_if_ne (tgt := 15) hx hb dX1_write_5 (by decide) (fun c1 => ?_) (fun c1 => ?_)
  · refine lv_iconst (v := 1) hx hb dX1_write_15 (by decide) ?_
    refine lv_goto (tgt := 20) hx hb dX1_write_16 (by decide) ?_
    refine ztP_amiss C hP hS rfl rfl dX1_write_20 (fun u2 H locs hu2 hP hS => ?_)
    refine lv_iload_n hx hb dX1_write_23 rfl (lv_at hl 1 rfl) ?_
    refine ztK_isWord C hl.1 (by decide) (Nat.le_of_ble_eq_true rfl) dX1_write_24 ?_
    refine lv_if_ne (tgt := 31) hx hb dX1_write_27 (by decide) (fun c3 => ?_) (fun c3 => ?_)
    · refine lv_aload_n hx hb dX1_write_31 rfl (lv_at hl 0 rfl) ?_
      refine ztG_places C hP dX1_write_32 ?_
      refine lv_aload_n hx hb dX1_write_35 rfl (lv_at hl 0 rfl) ?_
      refine ztG_writes C hP dX1_write_36 ?_
      refine lv_iload_n hx hb dX1_write_39 rfl (lv_at hl 1 rfl) ?_
      refine ztS_places C hP hS (by subst hu2; exact zt_in8 hN) dX1_write_40 (fun u4 H locs hu4 hP hS => ?_)
      refine lv_aload_n hx hb dX1_write_41 rfl (lv_at hl 0 rfl) ?_
      refine ztG_before C hP dX1_write_42 ?_
      refine lv_aload_n hx hb dX1_write_45 rfl (lv_at hl 0 rfl) ?_
      refine ztG_writes C hP dX1_write_46 ?_
      refine lv_aload_n hx hb dX1_write_49 rfl (lv_at hl 0 rfl) ?_
      refine ztG_words C hP dX1_write_50 ?_
      refine lv_iload_n hx hb dX1_write_53 rfl (lv_at hl 1 rfl) ?_
      refine ztL_words C hP (by first | with_reducible assumption | with_reducible exact zt_in (by with_reducible assumption) | with_reducible exact zt_inb (by with_reducible assumption) (by with_reducible assumption)) dX1_write_54 ?_
      refine ztS_before C hP hS (by subst hu2 hu4; exact zt_in8 hN) dX1_write_55 (fun u5 H locs hu5 hP hS => ?_)
      refine lv_aload_n hx hb dX1_write_56 rfl (lv_at hl 0 rfl) ?_
      refine lv_dup hx hb dX1_write_57 rfl ?_
      refine ztG_writes C hP dX1_write_58 ?_
      refine lv_iconst (v := 1) hx hb dX1_write_61 (by decide) ?_
      refine lv_iadd hx hb dX1_write_62 ?_
      refine ztP_writes C hP hS dX1_write_63 (fun u6 H locs hu6 hP hS => ?_)
      refine lv_aload_n hx hb dX1_write_66 rfl (lv_at hl 0 rfl) ?_
      refine ztG_words C hP dX1_write_67 ?_
      refine lv_iload_n hx hb dX1_write_70 rfl (lv_at hl 1 rfl) ?_
      refine lv_iload_n hx hb dX1_write_71 rfl (lv_at hl 2 rfl) ?_
      refine ztS_words C hP hS (by first | with_reducible assumption | with_reducible exact zt_in (by with_reducible assumption) | with_reducible exact zt_inb (by with_reducible assumption) (by with_reducible assumption)) dX1_write_72 (fun u7 H locs hu7 hP hS => ?_)
      exact zt_vret C hr hlk hP hS (by subst hu2 hu4 hu5 hu6 hu7; exact (if_neg c1).trans ((if_neg c3).trans (rfl))) dX1_write_73
    · exact zt_vret C hr hlk hP hS (by subst hu2; exact (if_neg c1).trans ((if_pos c3).trans (rfl))) dX1_write_30
  · refine lv_iload_n hx hb dX1_write_8 rfl (lv_at hl 1 rfl) ?_
    refine ztK_isWord C hl.1 (by decide) (Nat.le_of_ble_eq_true rfl) dX1_write_9 ?_
    refine lv_if_ne (tgt := 19) hx hb dX1_write_12 (by decide) (fun c8 => ?_) (fun c8 => ?_)
    · refine lv_iconst (v := 0) hx hb dX1_write_19 (by decide) ?_
      refine ztP_amiss C hP hS rfl rfl dX1_write_20 (fun u9 H locs hu9 hP hS => ?_)
      refine lv_iload_n hx hb dX1_write_23 rfl (lv_at hl 1 rfl) ?_
      refine ztK_isWord C hl.1 (by decide) (Nat.le_of_ble_eq_true rfl) dX1_write_24 ?_
      refine lv_if_ne (tgt := 31) hx hb dX1_write_27 (by decide) (fun c10 => ?_) (fun c10 => ?_)
      · refine lv_aload_n hx hb dX1_write_31 rfl (lv_at hl 0 rfl) ?_
        refine ztG_places C hP dX1_write_32 ?_
        refine lv_aload_n hx hb dX1_write_35 rfl (lv_at hl 0 rfl) ?_
        refine ztG_writes C hP dX1_write_36 ?_
        refine lv_iload_n hx hb dX1_write_39 rfl (lv_at hl 1 rfl) ?_
        refine ztS_places C hP hS (by subst hu9; exact zt_in8 hN) dX1_write_40 (fun u11 H locs hu11 hP hS => ?_)
        refine lv_aload_n hx hb dX1_write_41 rfl (lv_at hl 0 rfl) ?_
        refine ztG_before C hP dX1_write_42 ?_
        refine lv_aload_n hx hb dX1_write_45 rfl (lv_at hl 0 rfl) ?_
        refine ztG_writes C hP dX1_write_46 ?_
        refine lv_aload_n hx hb dX1_write_49 rfl (lv_at hl 0 rfl) ?_
        refine ztG_words C hP dX1_write_50 ?_
        refine lv_iload_n hx hb dX1_write_53 rfl (lv_at hl 1 rfl) ?_
        refine ztL_words C hP (by first | with_reducible assumption | with_reducible exact zt_in (by with_reducible assumption) | with_reducible exact zt_inb (by with_reducible assumption) (by with_reducible assumption)) dX1_write_54 ?_
        refine ztS_before C hP hS (by subst hu9 hu11; exact zt_in8 hN) dX1_write_55 (fun u12 H locs hu12 hP hS => ?_)
        refine lv_aload_n hx hb dX1_write_56 rfl (lv_at hl 0 rfl) ?_
        refine lv_dup hx hb dX1_write_57 rfl ?_
        refine ztG_writes C hP dX1_write_58 ?_
        refine lv_iconst (v := 1) hx hb dX1_write_61 (by decide) ?_
        refine lv_iadd hx hb dX1_write_62 ?_
        refine ztP_writes C hP hS dX1_write_63 (fun u13 H locs hu13 hP hS => ?_)
        refine lv_aload_n hx hb dX1_write_66 rfl (lv_at hl 0 rfl) ?_
        refine ztG_words C hP dX1_write_67 ?_
        refine lv_iload_n hx hb dX1_write_70 rfl (lv_at hl 1 rfl) ?_
        refine lv_iload_n hx hb dX1_write_71 rfl (lv_at hl 2 rfl) ?_
        refine ztS_words C hP hS (by first | with_reducible assumption | with_reducible exact zt_in (by with_reducible assumption) | with_reducible exact zt_inb (by with_reducible assumption) (by with_reducible assumption)) dX1_write_72 (fun u14 H locs hu14 hP hS => ?_)
        exact zt_vret C hr hlk hP hS (by subst hu9 hu11 hu12 hu13 hu14; exact (if_pos c1).trans ((if_neg c8).trans ((if_neg c10).trans (rfl)))) dX1_write_73
      · exact zt_vret C hr hlk hP hS (by subst hu9; exact (if_pos c1).trans ((if_neg c8).trans ((if_pos c10).trans (rfl)))) dX1_write_30
    · refine lv_iconst (v := 1) hx hb dX1_write_15 (by decide) ?_
      refine lv_goto (tgt := 20) hx hb dX1_write_16 (by decide) ?_
      refine ztP_amiss C hP hS rfl rfl dX1_write_20 (fun u15 H locs hu15 hP hS => ?_)
      refine lv_iload_n hx hb dX1_write_23 rfl (lv_at hl 1 rfl) ?_
      refine ztK_isWord C hl.1 (by decide) (Nat.le_of_ble_eq_true rfl) dX1_write_24 ?_
      refine lv_if_ne (tgt := 31) hx hb dX1_write_27 (by decide) (fun c16 => ?_) (fun c16 => ?_)
      · refine lv_aload_n hx hb dX1_write_31 rfl (lv_at hl 0 rfl) ?_
        refine ztG_places C hP dX1_write_32 ?_
        refine lv_aload_n hx hb dX1_write_35 rfl (lv_at hl 0 rfl) ?_
        refine ztG_writes C hP dX1_write_36 ?_
        refine lv_iload_n hx hb dX1_write_39 rfl (lv_at hl 1 rfl) ?_
        refine ztS_places C hP hS (by subst hu15; exact zt_in8 hN) dX1_write_40 (fun u17 H locs hu17 hP hS => ?_)
        refine lv_aload_n hx hb dX1_write_41 rfl (lv_at hl 0 rfl) ?_
        refine ztG_before C hP dX1_write_42 ?_
        refine lv_aload_n hx hb dX1_write_45 rfl (lv_at hl 0 rfl) ?_
        refine ztG_writes C hP dX1_write_46 ?_
        refine lv_aload_n hx hb dX1_write_49 rfl (lv_at hl 0 rfl) ?_
        refine ztG_words C hP dX1_write_50 ?_
        refine lv_iload_n hx hb dX1_write_53 rfl (lv_at hl 1 rfl) ?_
        refine ztL_words C hP (by first | with_reducible assumption | with_reducible exact zt_in (by with_reducible assumption) | with_reducible exact zt_inb (by with_reducible assumption) (by with_reducible assumption)) dX1_write_54 ?_
        refine ztS_before C hP hS (by subst hu15 hu17; exact zt_in8 hN) dX1_write_55 (fun u18 H locs hu18 hP hS => ?_)
        refine lv_aload_n hx hb dX1_write_56 rfl (lv_at hl 0 rfl) ?_
        refine lv_dup hx hb dX1_write_57 rfl ?_
        refine ztG_writes C hP dX1_write_58 ?_
        refine lv_iconst (v := 1) hx hb dX1_write_61 (by decide) ?_
        refine lv_iadd hx hb dX1_write_62 ?_
        refine ztP_writes C hP hS dX1_write_63 (fun u19 H locs hu19 hP hS => ?_)
        refine lv_aload_n hx hb dX1_write_66 rfl (lv_at hl 0 rfl) ?_
        refine ztG_words C hP dX1_write_67 ?_
        refine lv_iload_n hx hb dX1_write_70 rfl (lv_at hl 1 rfl) ?_
        refine lv_iload_n hx hb dX1_write_71 rfl (lv_at hl 2 rfl) ?_
        refine ztS_words C hP hS (by first | with_reducible assumption | with_reducible exact zt_in (by with_reducible assumption) | with_reducible exact zt_inb (by with_reducible assumption) (by with_reducible assumption)) dX1_write_72 (fun u20 H locs hu20 hP hS => ?_)
        exact zt_vret C hr hlk hP hS (by subst hu15 hu17 hu18 hu19 hu20; exact (if_pos c1).trans ((if_pos c8).trans ((if_neg c16).trans (rfl)))) dX1_write_73
      · exact zt_vret C hr hlk hP hS (by subst hu15; exact (if_pos c1).trans ((if_pos c8).trans ((if_pos c16).trans (rfl)))) dX1_write_30
section
variable {p : Program} {l : Launch} {e : Env} {R : Room} {s : State} {m : MethodId} {args : Array Value} {below : List Frame} {meth : Method} {c : Code} {H : Heap} {locs : List Loc} {Q : State → Prop} {cc : ByteArray} {pc nL : Nat} {ls : Array Slot} {rest : List Value} {k : Ztk} {u : Zts} {H0 : Heap}
set_option maxHeartbeats 4000000 in
set_option maxRecDepth 100000 in
theorem ztK_write {a1 a2 : Int32} (C : ZtC p s m args c cc nL k) (hP : ZtP k u H) (hS : va_S (ZtA k) H0 H locs) (hsz : ls.size = nL) (hR : 1 + 1 ≤ R.frames ∧ 8 + (3 + 11) + 40 * 1 ≤ R.locals) (hw : (rest.map fun v => v.category).sum ≤ 8) {w0 : Nat → Int32} (hN : ZtG w0 7 u) (hdg : decode cc pc = .ok (.invokevirtual 68, 3)) (kk : ∀ (u1 : Zts) (H1 : Heap) (locs1 : List Loc), u1 = zt_write u a1 a2 → ZtP k u1 H1 → va_S (ZtA k) H0 H1 locs1 → W p l e R s m args below meth c H1 locs1 0 0 Q (F0 m (pc + 3) ls (rest))) : W p l e R s m args below meth c H locs 0 0 Q (F0 m pc ls (.int a2 :: .int a1 :: .ref (zta_this k) :: rest)) :=
  zt_callV (y := yX1_write) (n := 2) (As := [.int a1, .int a2]) C (ztM_write l k C.2.2 u a1 a2 hN) zwT_c_write zwT_l_write zwT_i_write zwT_v_write rfl (by decide +kernel) hP hS hsz hR hw rfl hdg (fun H1 locs1 hP1 hS1 => kk _ H1 locs1 rfl hP1 hS1)
end

theorem zupd_back (w : Nat → Int32) (a : Nat) (v : Int32) : upd (upd w a v) a (w a) = w := by
  funext j
  unfold upd
  by_cases h : j = a
  · rw [if_pos h, h]
  · rw [if_neg h, if_neg h]
theorem zt_G_write {w0 : Nat → Int32} {n : Nat} {u : Zts} (a1 a2 : Int32) (hn : n < 8) (h : ZtG w0 n u) : ZtG w0 (n + 1) (zt_write u a1 a2) := by
  have key : ∀ b : Int32, ¬ zt_isWord a1 = 0 → ZtG w0 (n + 1) (zts_words (zts_writes (zts_before (zts_places (zts_amiss u b) (upd (ztg_places u) (ztg_writes u).toNatClampNeg a1)) (upd (ztg_before u) (ztg_writes u).toNatClampNeg (ztg_words u a1.toNatClampNeg))) (ztg_writes u + 1)) (upd (ztg_words u) a1.toNatClampNeg a2)) := by
    intro b hw
    obtain ⟨j, h1, h2, h3, h4⟩ := h
    obtain ⟨q, hq, rfl⟩ := vp_in_of (zt_in hw) (by decide)
    have hc : (ztg_writes u).toNatClampNeg = j := by rw [h2]; exact nI_clamp (by omega)
    have hqc : (nI q).toNatClampNeg = q := nI_clamp (by omega)
    refine ⟨j + 1, by omega, ?_, ?_, ?_⟩
    · show ztg_writes u + 1 = nI (j + 1)
      rw [h2, nI_succ]
    · intro i hi
      show ∃ q : Nat, q < 256 ∧ upd (ztg_places u) (ztg_writes u).toNatClampNeg _ i = nI q
      rw [hc]
      by_cases e : i = j
      · exact ⟨q, hq, by rw [e]; exact pk_us⟩
      · obtain ⟨q2, g1, g2⟩ := h3 i (by omega)
        exact ⟨q2, g1, by rw [pk_un e]; exact g2⟩
    · show zundo (upd (ztg_places u) (ztg_writes u).toNatClampNeg _) (upd (ztg_before u) (ztg_writes u).toNatClampNeg _) (j + 1) (upd (ztg_words u) (nI q).toNatClampNeg a2) = w0
      rw [hc, hqc]
      unfold zundo
      rw [pk_us, pk_us, hqc, zupd_back]
      rw [← h4]
      exact zundo_congr j _ (fun i hi => ⟨pk_un (by omega), pk_un (by omega)⟩)
  have low : ∀ b : Int32, ZtG w0 (n + 1) (zts_amiss u b) := fun b => zt_Gle (Nat.le_succ n) h
  unfold zt_write
  dsimp only
  repeat' split
  all_goals first | exact low _ | exact key _ (by with_reducible assumption)
def zt_byteAt (u : Zts) (a1 : Int32) : Int32 × Zts :=
  if a1 < 0 then (
    if (ztg_amiss u) = 0 then (
      let u4 := zts_amiss u 1
      (0, u4))
    else (
      let u3 := zts_amiss u 1
      (0, u3)))
  else (
    if 512 ≤ a1 then (
      if (ztg_amiss u) = 0 then (
        let u8 := zts_amiss u 1
        (0, u8))
      else (
        let u7 := zts_amiss u 1
        (0, u7)))
    else (
      if (ztg_amiss u) = 0 then (
        let u11 := zts_amiss u 0
        (ztg_bytes u11 a1.toNatClampNeg, u11))
      else (
        let u10 := zts_amiss u 1
        (ztg_bytes u10 a1.toNatClampNeg, u10))))
set_option maxHeartbeats 4000000 in
set_option maxRecDepth 100000 in
theorem ztM_byteAt (l : Launch) (k : Ztk) (Dk : ZtD k) (u : Zts) (a1 : Int32) : Met l yX1_byteAt (.code yX1_byteAt cX1_byteAt 3 (some .int) :: zwT) (zrm 0) (ZtB k [.ref (zta_this k), .int a1] u) (ZtQ k (some (.int (zt_byteAt u a1).1)) (zt_byteAt u a1).2) 0 0 (ZtA k) := by
  refine ztE_in (by decide) rfl (Nat.le_of_ble_eq_true rfl) Dk ?_
  intro p e s m below meth c ls C hr hlk hP hl
  have hx := C.1.1
  have hb := C.1.2.1
  have hl : lv_has ls 3 [(0, .ref (zta_this k)), (1, .int a1)] := hl
  have hS : va_S (ZtA k) s.heap s.heap [] := va_S.rf
  refine lv_iload_n hx hb dX1_byteAt_0 rfl (lv_at hl 1 rfl) ?_
  refine lv_if_lt (tgt := 15) hx hb dX1_byteAt_1 (by decide) (fun c1 => ?_) (fun c1 => ?_)
  · refine lv_iconst (v := 0) hx hb dX1_byteAt_15 (by decide) ?_
    refine lv_istore_n (lv' := [(2, .int 0), (0, .ref (zta_this k)), (1, .int a1)]) hx hb dX1_byteAt_16 rfl hl (by decide) rfl (fun ls hl => ?_)
    refine lv_aload_n hx hb dX1_byteAt_17 rfl (lv_at hl 1 rfl) ?_
    refine lv_aload_n hx hb dX1_byteAt_18 rfl (lv_at hl 1 rfl) ?_
    refine ztG_amiss C hP dX1_byteAt_19 ?_
    refine lv_if_ne (tgt := 29) hx hb dX1_byteAt_22 (by decide) (fun c2 => ?_) (fun c2 => ?_)
    · refine lv_iconst (v := 1) hx hb dX1_byteAt_29 (by decide) ?_
      refine lv_goto (tgt := 34) hx hb dX1_byteAt_30 (by decide) ?_
      refine ztP_amiss C hP hS rfl rfl dX1_byteAt_34 (fun u3 H locs hu3 hP hS => ?_)
      refine lv_iload_n hx hb dX1_byteAt_37 rfl (lv_at hl 0 rfl) ?_
      refine lv_if_eq (tgt := 50) hx hb dX1_byteAt_38 (by decide) (fun _ => ?_) (fun q => absurd q (by decide))
      refine lv_iconst (v := 0) hx hb dX1_byteAt_50 (by decide) ?_
      exact zt_iret C hr hlk hP hS (by subst hu3; exact (if_pos c1).trans ((if_neg c2).trans (rfl))) dX1_byteAt_51
    · refine lv_iload_n hx hb dX1_byteAt_25 rfl (lv_at hl 0 rfl) ?_
      refine lv_if_ne (tgt := 33) hx hb dX1_byteAt_26 (by decide) (fun q => absurd q (by decide)) (fun _ => ?_)
      refine lv_iconst (v := 1) hx hb dX1_byteAt_29 (by decide) ?_
      refine lv_goto (tgt := 34) hx hb dX1_byteAt_30 (by decide) ?_
      refine ztP_amiss C hP hS rfl rfl dX1_byteAt_34 (fun u4 H locs hu4 hP hS => ?_)
      refine lv_iload_n hx hb dX1_byteAt_37 rfl (lv_at hl 0 rfl) ?_
      refine lv_if_eq (tgt := 50) hx hb dX1_byteAt_38 (by decide) (fun _ => ?_) (fun q => absurd q (by decide))
      refine lv_iconst (v := 0) hx hb dX1_byteAt_50 (by decide) ?_
      exact zt_iret C hr hlk hP hS (by subst hu4; exact (if_pos c1).trans ((if_pos c2).trans (rfl))) dX1_byteAt_51
  · refine lv_iload_n hx hb dX1_byteAt_4 rfl (lv_at hl 1 rfl) ?_
    refine lv_sipush (v := 512) hx hb dX1_byteAt_5 (by decide) ?_
    refine lv_icmp_ge (tgt := 15) hx hb dX1_byteAt_8 (by decide) (fun c5 => ?_) (fun c5 => ?_)
    · refine lv_iconst (v := 0) hx hb dX1_byteAt_15 (by decide) ?_
      refine lv_istore_n (lv' := [(2, .int 0), (0, .ref (zta_this k)), (1, .int a1)]) hx hb dX1_byteAt_16 rfl hl (by decide) rfl (fun ls hl => ?_)
      refine lv_aload_n hx hb dX1_byteAt_17 rfl (lv_at hl 1 rfl) ?_
      refine lv_aload_n hx hb dX1_byteAt_18 rfl (lv_at hl 1 rfl) ?_
      refine ztG_amiss C hP dX1_byteAt_19 ?_
      refine lv_if_ne (tgt := 29) hx hb dX1_byteAt_22 (by decide) (fun c6 => ?_) (fun c6 => ?_)
      · refine lv_iconst (v := 1) hx hb dX1_byteAt_29 (by decide) ?_
        refine lv_goto (tgt := 34) hx hb dX1_byteAt_30 (by decide) ?_
        refine ztP_amiss C hP hS rfl rfl dX1_byteAt_34 (fun u7 H locs hu7 hP hS => ?_)
        refine lv_iload_n hx hb dX1_byteAt_37 rfl (lv_at hl 0 rfl) ?_
        refine lv_if_eq (tgt := 50) hx hb dX1_byteAt_38 (by decide) (fun _ => ?_) (fun q => absurd q (by decide))
        refine lv_iconst (v := 0) hx hb dX1_byteAt_50 (by decide) ?_
        exact zt_iret C hr hlk hP hS (by subst hu7; exact (if_neg c1).trans ((if_pos c5).trans ((if_neg c6).trans (rfl)))) dX1_byteAt_51
      · refine lv_iload_n hx hb dX1_byteAt_25 rfl (lv_at hl 0 rfl) ?_
        refine lv_if_ne (tgt := 33) hx hb dX1_byteAt_26 (by decide) (fun q => absurd q (by decide)) (fun _ => ?_)
        refine lv_iconst (v := 1) hx hb dX1_byteAt_29 (by decide) ?_
        refine lv_goto (tgt := 34) hx hb dX1_byteAt_30 (by decide) ?_
        refine ztP_amiss C hP hS rfl rfl dX1_byteAt_34 (fun u8 H locs hu8 hP hS => ?_)
        refine lv_iload_n hx hb dX1_byteAt_37 rfl (lv_at hl 0 rfl) ?_
        refine lv_if_eq (tgt := 50) hx hb dX1_byteAt_38 (by decide) (fun _ => ?_) (fun q => absurd q (by decide))
        refine lv_iconst (v := 0) hx hb dX1_byteAt_50 (by decide) ?_
        exact zt_iret C hr hlk hP hS (by subst hu8; exact (if_neg c1).trans ((if_pos c5).trans ((if_pos c6).trans (rfl)))) dX1_byteAt_51
    · refine lv_iconst (v := 1) hx hb dX1_byteAt_11 (by decide) ?_
      refine lv_goto (tgt := 16) hx hb dX1_byteAt_12 (by decide) ?_
      refine lv_istore_n (lv' := [(2, .int 1), (0, .ref (zta_this k)), (1, .int a1)]) hx hb dX1_byteAt_16 rfl hl (by decide) rfl (fun ls hl => ?_)
      refine lv_aload_n hx hb dX1_byteAt_17 rfl (lv_at hl 1 rfl) ?_
      refine lv_aload_n hx hb dX1_byteAt_18 rfl (lv_at hl 1 rfl) ?_
      refine ztG_amiss C hP dX1_byteAt_19 ?_
      refine lv_if_ne (tgt := 29) hx hb dX1_byteAt_22 (by decide) (fun c9 => ?_) (fun c9 => ?_)
      · refine lv_iconst (v := 1) hx hb dX1_byteAt_29 (by decide) ?_
        refine lv_goto (tgt := 34) hx hb dX1_byteAt_30 (by decide) ?_
        refine ztP_amiss C hP hS rfl rfl dX1_byteAt_34 (fun u10 H locs hu10 hP hS => ?_)
        refine lv_iload_n hx hb dX1_byteAt_37 rfl (lv_at hl 0 rfl) ?_
        refine lv_if_eq (tgt := 50) hx hb dX1_byteAt_38 (by decide) (fun q => absurd q (by decide)) (fun _ => ?_)
        refine lv_aload_n hx hb dX1_byteAt_41 rfl (lv_at hl 1 rfl) ?_
        refine ztG_bytes C hP dX1_byteAt_42 ?_
        refine lv_iload_n hx hb dX1_byteAt_45 rfl (lv_at hl 2 rfl) ?_
        refine ztL_bytes C hP (by first | with_reducible assumption | with_reducible exact zt_in (by with_reducible assumption) | with_reducible exact zt_inb (by with_reducible assumption) (by with_reducible assumption)) dX1_byteAt_46 ?_
        refine lv_goto (tgt := 51) hx hb dX1_byteAt_47 (by decide) ?_
        exact zt_iret C hr hlk hP hS (by subst hu10; exact (if_neg c1).trans ((if_neg c5).trans ((if_neg c9).trans (rfl)))) dX1_byteAt_51
      · refine lv_iload_n hx hb dX1_byteAt_25 rfl (lv_at hl 0 rfl) ?_
        refine lv_if_ne (tgt := 33) hx hb dX1_byteAt_26 (by decide) (fun _ => ?_) (fun q => absurd q (by decide))
        refine lv_iconst (v := 0) hx hb dX1_byteAt_33 (by decide) ?_
        refine ztP_amiss C hP hS rfl rfl dX1_byteAt_34 (fun u11 H locs hu11 hP hS => ?_)
        refine lv_iload_n hx hb dX1_byteAt_37 rfl (lv_at hl 0 rfl) ?_
        refine lv_if_eq (tgt := 50) hx hb dX1_byteAt_38 (by decide) (fun q => absurd q (by decide)) (fun _ => ?_)
        refine lv_aload_n hx hb dX1_byteAt_41 rfl (lv_at hl 1 rfl) ?_
        refine ztG_bytes C hP dX1_byteAt_42 ?_
        refine lv_iload_n hx hb dX1_byteAt_45 rfl (lv_at hl 2 rfl) ?_
        refine ztL_bytes C hP (by first | with_reducible assumption | with_reducible exact zt_in (by with_reducible assumption) | with_reducible exact zt_inb (by with_reducible assumption) (by with_reducible assumption)) dX1_byteAt_46 ?_
        refine lv_goto (tgt := 51) hx hb dX1_byteAt_47 (by decide) ?_
        exact zt_iret C hr hlk hP hS (by subst hu11; exact (if_neg c1).trans ((if_neg c5).trans ((if_pos c9).trans (rfl)))) dX1_byteAt_51
section
variable {p : Program} {l : Launch} {e : Env} {R : Room} {s : State} {m : MethodId} {args : Array Value} {below : List Frame} {meth : Method} {c : Code} {H : Heap} {locs : List Loc} {Q : State → Prop} {cc : ByteArray} {pc nL : Nat} {ls : Array Slot} {rest : List Value} {k : Ztk} {u : Zts} {H0 : Heap}
set_option maxHeartbeats 4000000 in
set_option maxRecDepth 100000 in
theorem ztK_byteAt {a1 : Int32} (C : ZtC p s m args c cc nL k) (hP : ZtP k u H) (hS : va_S (ZtA k) H0 H locs) (hsz : ls.size = nL) (hR : 0 + 1 ≤ R.frames ∧ 8 + (3 + 11) + 40 * 0 ≤ R.locals) (hw : (rest.map fun v => v.category).sum ≤ 8) (hdg : decode cc pc = .ok (.invokevirtual 61, 3)) (kk : ∀ (r1 : Int32) (u1 : Zts) (H1 : Heap) (locs1 : List Loc), r1 = (zt_byteAt u a1).1 → u1 = (zt_byteAt u a1).2 → ZtP k u1 H1 → va_S (ZtA k) H0 H1 locs1 → W p l e R s m args below meth c H1 locs1 0 0 Q (F0 m (pc + 3) ls (.int r1 :: rest))) : W p l e R s m args below meth c H locs 0 0 Q (F0 m pc ls (.int a1 :: .ref (zta_this k) :: rest)) :=
  zt_callV (y := yX1_byteAt) (n := 1) (As := [.int a1]) C (ztM_byteAt l k C.2.2 u a1 ) zwT_c_byteAt zwT_l_byteAt zwT_i_byteAt zwT_v_byteAt rfl (by decide +kernel) hP hS hsz hR hw rfl hdg (fun H1 locs1 hP1 hS1 => kk _ _ H1 locs1 rfl rfl hP1 hS1)
end
theorem zt_G_byteAt {w0 : Nat → Int32} {n : Nat} {u : Zts} (a1 : Int32) (h : ZtG w0 n u) : ZtG w0 (n + 0) (zt_byteAt u a1).2 := by
  unfold zt_byteAt
  dsimp only
  repeat' split
  all_goals first | exact zt_Gle (by omega) (zt_Gs_amiss _ (h))
def zt_pair (u : Zts) (a1 : Int32) : Int32 × Zts :=
  let r2 := (zt_byteAt u a1).1
  let u1 := (zt_byteAt u a1).2
  let r4 := (zt_byteAt u1 (a1 + 1)).1
  let u3 := (zt_byteAt u1 (a1 + 1)).2
  ((r2 * 256) + r4, u3)
set_option maxHeartbeats 4000000 in
set_option maxRecDepth 100000 in
theorem ztM_pair (l : Launch) (k : Ztk) (Dk : ZtD k) (u : Zts) (a1 : Int32) : Met l yX1_pair (.code yX1_pair cX1_pair 3 (some .int) :: zwT) (zrm 1) (ZtB k [.ref (zta_this k), .int a1] u) (ZtQ k (some (.int (zt_pair u a1).1)) (zt_pair u a1).2) 0 0 (ZtA k) := by
  refine ztE_in (by decide) rfl (Nat.le_of_ble_eq_true rfl) Dk ?_
  intro p e s m below meth c ls C hr hlk hP hl
  have hx := C.1.1
  have hb := C.1.2.1
  have hl : lv_has ls 3 [(0, .ref (zta_this k)), (1, .int a1)] := hl
  have hS : va_S (ZtA k) s.heap s.heap [] := va_S.rf
  refine lv_aload_n hx hb dX1_pair_0 rfl (lv_at hl 0 rfl) ?_
  refine lv_iload_n hx hb dX1_pair_1 rfl (lv_at hl 1 rfl) ?_
  refine ztK_byteAt C hP hS hl.1 (by decide) (Nat.le_of_ble_eq_true rfl) dX1_pair_2 (fun r2 u1 H locs hr2 hu1 hP hS => ?_)
  refine lv_istore_n (lv' := [(2, .int r2), (0, .ref (zta_this k)), (1, .int a1)]) hx hb dX1_pair_5 rfl hl (by decide) rfl (fun ls hl => ?_)
  refine lv_iload_n hx hb dX1_pair_6 rfl (lv_at hl 0 rfl) ?_
  refine lv_sipush (v := 256) hx hb dX1_pair_7 (by decide) ?_
  refine lv_imul hx hb dX1_pair_10 ?_
  refine lv_aload_n hx hb dX1_pair_11 rfl (lv_at hl 1 rfl) ?_
  refine lv_iload_n hx hb dX1_pair_12 rfl (lv_at hl 2 rfl) ?_
  refine lv_iconst (v := 1) hx hb dX1_pair_13 (by decide) ?_
  refine lv_iadd hx hb dX1_pair_14 ?_
  refine ztK_byteAt C hP hS hl.1 (by decide) (Nat.le_of_ble_eq_true rfl) dX1_pair_15 (fun r4 u3 H locs hr4 hu3 hP hS => ?_)
  refine lv_iadd hx hb dX1_pair_18 ?_
  exact zt_iret C hr hlk hP hS (by subst hr2 hu1 hr4 hu3; exact rfl) dX1_pair_19
section
variable {p : Program} {l : Launch} {e : Env} {R : Room} {s : State} {m : MethodId} {args : Array Value} {below : List Frame} {meth : Method} {c : Code} {H : Heap} {locs : List Loc} {Q : State → Prop} {cc : ByteArray} {pc nL : Nat} {ls : Array Slot} {rest : List Value} {k : Ztk} {u : Zts} {H0 : Heap}
set_option maxHeartbeats 4000000 in
set_option maxRecDepth 100000 in
theorem ztK_pair {a1 : Int32} (C : ZtC p s m args c cc nL k) (hP : ZtP k u H) (hS : va_S (ZtA k) H0 H locs) (hsz : ls.size = nL) (hR : 1 + 1 ≤ R.frames ∧ 8 + (3 + 11) + 40 * 1 ≤ R.locals) (hw : (rest.map fun v => v.category).sum ≤ 8) (hdg : decode cc pc = .ok (.invokevirtual 78, 3)) (kk : ∀ (r1 : Int32) (u1 : Zts) (H1 : Heap) (locs1 : List Loc), r1 = (zt_pair u a1).1 → u1 = (zt_pair u a1).2 → ZtP k u1 H1 → va_S (ZtA k) H0 H1 locs1 → W p l e R s m args below meth c H1 locs1 0 0 Q (F0 m (pc + 3) ls (.int r1 :: rest))) : W p l e R s m args below meth c H locs 0 0 Q (F0 m pc ls (.int a1 :: .ref (zta_this k) :: rest)) :=
  zt_callV (y := yX1_pair) (n := 1) (As := [.int a1]) C (ztM_pair l k C.2.2 u a1 ) zwT_c_pair zwT_l_pair zwT_i_pair zwT_v_pair rfl (by decide +kernel) hP hS hsz hR hw rfl hdg (fun H1 locs1 hP1 hS1 => kk _ _ H1 locs1 rfl rfl hP1 hS1)
end
theorem zt_G_pair {w0 : Nat → Int32} {n : Nat} {u : Zts} (a1 : Int32) (h : ZtG w0 n u) : ZtG w0 (n + 0) (zt_pair u a1).2 := by
  unfold zt_pair
  dsimp only
  repeat' split
  all_goals first | exact zt_Gle (by omega) (zt_G_byteAt _ (zt_G_byteAt _ (h)))
def zt_reckon (u : Zts) (a1 : Int32) : Int32 × Zts :=
  let u1 := zts_sp u ((ztg_sp u) - 1)
  let r3 := (zt_read u1 (ztg_sp u1)).1
  let u2 := (zt_read u1 (ztg_sp u1)).2
  if a1 = 96 then (
    let u13 := zts_top u2 (r3 + (ztg_top u2))
    let u14 := zt_write u13 (ztg_sp u13) (ztg_top u13)
    (4, u14))
  else (
    if a1 = 100 then (
      let u11 := zts_top u2 (r3 - (ztg_top u2))
      let u12 := zt_write u11 (ztg_sp u11) (ztg_top u11)
      (4, u12))
    else (
      if a1 = 126 then (
        let u9 := zts_top u2 (r3 &&& (ztg_top u2))
        let u10 := zt_write u9 (ztg_sp u9) (ztg_top u9)
        (4, u10))
      else (
        let u7 := zts_top u2 (r3 ||| (ztg_top u2))
        let u8 := zt_write u7 (ztg_sp u7) (ztg_top u7)
        (4, u8))))
set_option maxHeartbeats 4000000 in
set_option maxRecDepth 100000 in
theorem ztM_reckon (l : Launch) (k : Ztk) (Dk : ZtD k) (u : Zts) (a1 : Int32) {w0 : Nat → Int32} (hN : ZtG w0 4 u) : Met l yX1_reckon (.code yX1_reckon cX1_reckon 3 (some .int) :: zwT) (zrm 2) (ZtB k [.ref (zta_this k), .int a1] u) (ZtQ k (some (.int (zt_reckon u a1).1)) (zt_reckon u a1).2) 0 0 (ZtA k) := by
  refine ztE_in (by decide) rfl (Nat.le_of_ble_eq_true rfl) Dk ?_
  intro p e s m below meth c ls C hr hlk hP hl
  have hx := C.1.1
  have hb := C.1.2.1
  have hl : lv_has ls 3 [(0, .ref (zta_this k)), (1, .int a1)] := hl
  have hS : va_S (ZtA k) s.heap s.heap [] := va_S.rf
  refine lv_aload_n hx hb dX1_reckon_0 rfl (lv_at hl 0 rfl) ?_
  refine lv_dup hx hb dX1_reckon_1 rfl ?_
  refine ztG_sp C hP dX1_reckon_2 ?_
  refine lv_iconst (v := 1) hx hb dX1_reckon_5 (by decide) ?_
  refine lv_isub hx hb dX1_reckon_6 ?_
  refine ztP_sp C hP hS dX1_reckon_7 (fun u1 H locs hu1 hP hS => ?_)
  refine lv_aload_n hx hb dX1_reckon_10 rfl (lv_at hl 0 rfl) ?_
  refine lv_aload_n hx hb dX1_reckon_11 rfl (lv_at hl 0 rfl) ?_
  refine ztG_sp C hP dX1_reckon_12 ?_
  refine ztK_read C hP hS hl.1 (by decide) (Nat.le_of_ble_eq_true rfl) dX1_reckon_15 (fun r3 u2 H locs hr3 hu2 hP hS => ?_)
  refine lv_istore_n (lv' := [(2, .int r3), (0, .ref (zta_this k)), (1, .int a1)]) hx hb dX1_reckon_18 rfl hl (by decide) rfl (fun ls hl => ?_)
  refine lv_aload_n hx hb dX1_reckon_19 rfl (lv_at hl 1 rfl) ?_
  refine lv_iload_n hx hb dX1_reckon_20 rfl (lv_at hl 2 rfl) ?_
  refine lv_bipush (v := 96) hx hb dX1_reckon_21 (by decide) ?_
  refine lv_icmp_ne (tgt := 35) hx hb dX1_reckon_23 (by decide) (fun c4 => ?_) (fun c4 => ?_)
  · refine lv_iload_n hx hb dX1_reckon_35 rfl (lv_at hl 2 rfl) ?_
    refine lv_bipush (v := 100) hx hb dX1_reckon_36 (by decide) ?_
    refine lv_icmp_ne (tgt := 50) hx hb dX1_reckon_38 (by decide) (fun c5 => ?_) (fun c5 => ?_)
    · refine lv_iload_n hx hb dX1_reckon_50 rfl (lv_at hl 2 rfl) ?_
      refine lv_bipush (v := 126) hx hb dX1_reckon_51 (by decide) ?_
      refine lv_icmp_ne (tgt := 65) hx hb dX1_reckon_53 (by decide) (fun c6 => ?_) (fun c6 => ?_)
      · refine lv_iload_n hx hb dX1_reckon_65 rfl (lv_at hl 0 rfl) ?_
        refine lv_aload_n hx hb dX1_reckon_66 rfl (lv_at hl 1 rfl) ?_
        refine ztG_top C hP dX1_reckon_67 ?_
        refine lv_ior hx hb dX1_reckon_70 ?_
        refine ztP_top C hP hS dX1_reckon_71 (fun u7 H locs hu7 hP hS => ?_)
        refine lv_aload_n hx hb dX1_reckon_74 rfl (lv_at hl 1 rfl) ?_
        refine lv_aload_n hx hb dX1_reckon_75 rfl (lv_at hl 1 rfl) ?_
        refine ztG_sp C hP dX1_reckon_76 ?_
        refine lv_aload_n hx hb dX1_reckon_79 rfl (lv_at hl 1 rfl) ?_
        refine ztG_top C hP dX1_reckon_80 ?_
        refine ztK_write C hP hS hl.1 (by decide) (Nat.le_of_ble_eq_true rfl) (by subst hu1 hr3 hu2 hu7; exact zt_Gle (by decide) (zt_Gs_top _ (zt_G_read _ (zt_Gs_sp _ (hN))))) dX1_reckon_83 (fun u8 H locs hu8 hP hS => ?_)
        refine lv_iconst (v := 4) hx hb dX1_reckon_86 (by decide) ?_
        exact zt_iret C hr hlk hP hS (by subst hu1 hr3 hu2 hu7 hu8; exact (if_neg c4).trans ((if_neg c5).trans ((if_neg c6).trans (rfl)))) dX1_reckon_87
      · refine lv_iload_n hx hb dX1_reckon_56 rfl (lv_at hl 0 rfl) ?_
        refine lv_aload_n hx hb dX1_reckon_57 rfl (lv_at hl 1 rfl) ?_
        refine ztG_top C hP dX1_reckon_58 ?_
        refine lv_iand hx hb dX1_reckon_61 ?_
        refine lv_goto (tgt := 71) hx hb dX1_reckon_62 (by decide) ?_
        refine ztP_top C hP hS dX1_reckon_71 (fun u9 H locs hu9 hP hS => ?_)
        refine lv_aload_n hx hb dX1_reckon_74 rfl (lv_at hl 1 rfl) ?_
        refine lv_aload_n hx hb dX1_reckon_75 rfl (lv_at hl 1 rfl) ?_
        refine ztG_sp C hP dX1_reckon_76 ?_
        refine lv_aload_n hx hb dX1_reckon_79 rfl (lv_at hl 1 rfl) ?_
        refine ztG_top C hP dX1_reckon_80 ?_
        refine ztK_write C hP hS hl.1 (by decide) (Nat.le_of_ble_eq_true rfl) (by subst hu1 hr3 hu2 hu9; exact zt_Gle (by decide) (zt_Gs_top _ (zt_G_read _ (zt_Gs_sp _ (hN))))) dX1_reckon_83 (fun u10 H locs hu10 hP hS => ?_)
        refine lv_iconst (v := 4) hx hb dX1_reckon_86 (by decide) ?_
        exact zt_iret C hr hlk hP hS (by subst hu1 hr3 hu2 hu9 hu10; exact (if_neg c4).trans ((if_neg c5).trans ((if_pos c6).trans (rfl)))) dX1_reckon_87
    · refine lv_iload_n hx hb dX1_reckon_41 rfl (lv_at hl 0 rfl) ?_
      refine lv_aload_n hx hb dX1_reckon_42 rfl (lv_at hl 1 rfl) ?_
      refine ztG_top C hP dX1_reckon_43 ?_
      refine lv_isub hx hb dX1_reckon_46 ?_
      refine lv_goto (tgt := 71) hx hb dX1_reckon_47 (by decide) ?_
      refine ztP_top C hP hS dX1_reckon_71 (fun u11 H locs hu11 hP hS => ?_)
      refine lv_aload_n hx hb dX1_reckon_74 rfl (lv_at hl 1 rfl) ?_
      refine lv_aload_n hx hb dX1_reckon_75 rfl (lv_at hl 1 rfl) ?_
      refine ztG_sp C hP dX1_reckon_76 ?_
      refine lv_aload_n hx hb dX1_reckon_79 rfl (lv_at hl 1 rfl) ?_
      refine ztG_top C hP dX1_reckon_80 ?_
      refine ztK_write C hP hS hl.1 (by decide) (Nat.le_of_ble_eq_true rfl) (by subst hu1 hr3 hu2 hu11; exact zt_Gle (by decide) (zt_Gs_top _ (zt_G_read _ (zt_Gs_sp _ (hN))))) dX1_reckon_83 (fun u12 H locs hu12 hP hS => ?_)
      refine lv_iconst (v := 4) hx hb dX1_reckon_86 (by decide) ?_
      exact zt_iret C hr hlk hP hS (by subst hu1 hr3 hu2 hu11 hu12; exact (if_neg c4).trans ((if_pos c5).trans (rfl))) dX1_reckon_87
  · refine lv_iload_n hx hb dX1_reckon_26 rfl (lv_at hl 0 rfl) ?_
    refine lv_aload_n hx hb dX1_reckon_27 rfl (lv_at hl 1 rfl) ?_
    refine ztG_top C hP dX1_reckon_28 ?_
    refine lv_iadd hx hb dX1_reckon_31 ?_
    refine lv_goto (tgt := 71) hx hb dX1_reckon_32 (by decide) ?_
    refine ztP_top C hP hS dX1_reckon_71 (fun u13 H locs hu13 hP hS => ?_)
    refine lv_aload_n hx hb dX1_reckon_74 rfl (lv_at hl 1 rfl) ?_
    refine lv_aload_n hx hb dX1_reckon_75 rfl (lv_at hl 1 rfl) ?_
    refine ztG_sp C hP dX1_reckon_76 ?_
    refine lv_aload_n hx hb dX1_reckon_79 rfl (lv_at hl 1 rfl) ?_
    refine ztG_top C hP dX1_reckon_80 ?_
    refine ztK_write C hP hS hl.1 (by decide) (Nat.le_of_ble_eq_true rfl) (by subst hu1 hr3 hu2 hu13; exact zt_Gle (by decide) (zt_Gs_top _ (zt_G_read _ (zt_Gs_sp _ (hN))))) dX1_reckon_83 (fun u14 H locs hu14 hP hS => ?_)
    refine lv_iconst (v := 4) hx hb dX1_reckon_86 (by decide) ?_
    exact zt_iret C hr hlk hP hS (by subst hu1 hr3 hu2 hu13 hu14; exact (if_pos c4).trans (rfl)) dX1_reckon_87
section
variable {p : Program} {l : Launch} {e : Env} {R : Room} {s : State} {m : MethodId} {args : Array Value} {below : List Frame} {meth : Method} {c : Code} {H : Heap} {locs : List Loc} {Q : State → Prop} {cc : ByteArray} {pc nL : Nat} {ls : Array Slot} {rest : List Value} {k : Ztk} {u : Zts} {H0 : Heap}
set_option maxHeartbeats 4000000 in
set_option maxRecDepth 100000 in
theorem ztK_reckon {a1 : Int32} (C : ZtC p s m args c cc nL k) (hP : ZtP k u H) (hS : va_S (ZtA k) H0 H locs) (hsz : ls.size = nL) (hR : 2 + 1 ≤ R.frames ∧ 8 + (3 + 11) + 40 * 2 ≤ R.locals) (hw : (rest.map fun v => v.category).sum ≤ 8) {w0 : Nat → Int32} (hN : ZtG w0 4 u) (hdg : decode cc pc = .ok (.invokevirtual 96, 3)) (kk : ∀ (r1 : Int32) (u1 : Zts) (H1 : Heap) (locs1 : List Loc), r1 = (zt_reckon u a1).1 → u1 = (zt_reckon u a1).2 → ZtP k u1 H1 → va_S (ZtA k) H0 H1 locs1 → W p l e R s m args below meth c H1 locs1 0 0 Q (F0 m (pc + 3) ls (.int r1 :: rest))) : W p l e R s m args below meth c H locs 0 0 Q (F0 m pc ls (.int a1 :: .ref (zta_this k) :: rest)) :=
  zt_callV (y := yX1_reckon) (n := 1) (As := [.int a1]) C (ztM_reckon l k C.2.2 u a1 hN) zwT_c_reckon zwT_l_reckon zwT_i_reckon zwT_v_reckon rfl (by decide +kernel) hP hS hsz hR hw rfl hdg (fun H1 locs1 hP1 hS1 => kk _ _ H1 locs1 rfl rfl hP1 hS1)
end
theorem zt_G_reckon {w0 : Nat → Int32} {n : Nat} {u : Zts} (a1 : Int32) (hn : n ≤ 4) (h : ZtG w0 n u) : ZtG w0 (n + 1) (zt_reckon u a1).2 := by
  unfold zt_reckon
  dsimp only
  repeat' split
  all_goals first | exact zt_Gle (by omega) (zt_G_write _ _ (by omega) (zt_Gs_top _ (zt_G_read _ (zt_Gs_sp _ (h)))))
def zt_push (u : Zts) (a1 a2 a3 : Int32) : Int32 × Zts :=
  let u1 := zts_sp u ((ztg_sp u) + 1)
  let u2 := zts_top u1 a1
  let u3 := zt_write u2 (ztg_sp u2) (ztg_top u2)
  let u4 := zts_next u3 ((ztg_pc u3) + a2)
  (a3, u4)
set_option maxHeartbeats 4000000 in
set_option maxRecDepth 100000 in
theorem ztM_push (l : Launch) (k : Ztk) (Dk : ZtD k) (u : Zts) (a1 a2 a3 : Int32) {w0 : Nat → Int32} (hN : ZtG w0 4 u) : Met l yX1_push (.code yX1_push cX1_push 4 (some .int) :: zwT) (zrm 2) (ZtB k [.ref (zta_this k), .int a1, .int a2, .int a3] u) (ZtQ k (some (.int (zt_push u a1 a2 a3).1)) (zt_push u a1 a2 a3).2) 0 0 (ZtA k) := by
  refine ztE_in (by decide) rfl (Nat.le_of_ble_eq_true rfl) Dk ?_
  intro p e s m below meth c ls C hr hlk hP hl
  have hx := C.1.1
  have hb := C.1.2.1
  have hl : lv_has ls 4 [(0, .ref (zta_this k)), (1, .int a1), (2, .int a2), (3, .int a3)] := hl
  have hS : va_S (ZtA k) s.heap s.heap [] := va_S.rf
  refine lv_aload_n hx hb dX1_push_0 rfl (lv_at hl 0 rfl) ?_
  refine lv_dup hx hb dX1_push_1 rfl ?_
  refine ztG_sp C hP dX1_push_2 ?_
  refine lv_iconst (v := 1) hx hb dX1_push_5 (by decide) ?_
  refine lv_iadd hx hb dX1_push_6 ?_
  refine ztP_sp C hP hS dX1_push_7 (fun u1 H locs hu1 hP hS => ?_)
  refine lv_aload_n hx hb dX1_push_10 rfl (lv_at hl 0 rfl) ?_
  refine lv_iload_n hx hb dX1_push_11 rfl (lv_at hl 1 rfl) ?_
  refine ztP_top C hP hS dX1_push_12 (fun u2 H locs hu2 hP hS => ?_)
  refine lv_aload_n hx hb dX1_push_15 rfl (lv_at hl 0 rfl) ?_
  refine lv_aload_n hx hb dX1_push_16 rfl (lv_at hl 0 rfl) ?_
  refine ztG_sp C hP dX1_push_17 ?_
  refine lv_aload_n hx hb dX1_push_20 rfl (lv_at hl 0 rfl) ?_
  refine ztG_top C hP dX1_push_21 ?_
  refine ztK_write C hP hS hl.1 (by decide) (Nat.le_of_ble_eq_true rfl) (by subst hu1 hu2; exact zt_Gle (by decide) (zt_Gs_top _ (zt_Gs_sp _ (hN)))) dX1_push_24 (fun u3 H locs hu3 hP hS => ?_)
  refine lv_aload_n hx hb dX1_push_27 rfl (lv_at hl 0 rfl) ?_
  refine lv_aload_n hx hb dX1_push_28 rfl (lv_at hl 0 rfl) ?_
  refine ztG_pc C hP dX1_push_29 ?_
  refine lv_iload_n hx hb dX1_push_32 rfl (lv_at hl 2 rfl) ?_
  refine lv_iadd hx hb dX1_push_33 ?_
  refine ztP_next C hP hS dX1_push_34 (fun u4 H locs hu4 hP hS => ?_)
  refine lv_iload_n hx hb dX1_push_37 rfl (lv_at hl 3 rfl) ?_
  exact zt_iret C hr hlk hP hS (by subst hu1 hu2 hu3 hu4; exact rfl) dX1_push_38
section
variable {p : Program} {l : Launch} {e : Env} {R : Room} {s : State} {m : MethodId} {args : Array Value} {below : List Frame} {meth : Method} {c : Code} {H : Heap} {locs : List Loc} {Q : State → Prop} {cc : ByteArray} {pc nL : Nat} {ls : Array Slot} {rest : List Value} {k : Ztk} {u : Zts} {H0 : Heap}
set_option maxHeartbeats 4000000 in
set_option maxRecDepth 100000 in
theorem ztK_push {a1 a2 a3 : Int32} (C : ZtC p s m args c cc nL k) (hP : ZtP k u H) (hS : va_S (ZtA k) H0 H locs) (hsz : ls.size = nL) (hR : 2 + 1 ≤ R.frames ∧ 8 + (4 + 11) + 40 * 2 ≤ R.locals) (hw : (rest.map fun v => v.category).sum ≤ 8) {w0 : Nat → Int32} (hN : ZtG w0 4 u) (hdg : decode cc pc = .ok (.invokevirtual 81, 3)) (kk : ∀ (r1 : Int32) (u1 : Zts) (H1 : Heap) (locs1 : List Loc), r1 = (zt_push u a1 a2 a3).1 → u1 = (zt_push u a1 a2 a3).2 → ZtP k u1 H1 → va_S (ZtA k) H0 H1 locs1 → W p l e R s m args below meth c H1 locs1 0 0 Q (F0 m (pc + 3) ls (.int r1 :: rest))) : W p l e R s m args below meth c H locs 0 0 Q (F0 m pc ls (.int a3 :: .int a2 :: .int a1 :: .ref (zta_this k) :: rest)) :=
  zt_callV (y := yX1_push) (n := 3) (As := [.int a1, .int a2, .int a3]) C (ztM_push l k C.2.2 u a1 a2 a3 hN) zwT_c_push zwT_l_push zwT_i_push zwT_v_push rfl (by decide +kernel) hP hS hsz hR hw rfl hdg (fun H1 locs1 hP1 hS1 => kk _ _ H1 locs1 rfl rfl hP1 hS1)
end
theorem zt_G_push {w0 : Nat → Int32} {n : Nat} {u : Zts} (a1 a2 a3 : Int32) (hn : n ≤ 4) (h : ZtG w0 n u) : ZtG w0 (n + 1) (zt_push u a1 a2 a3).2 := by
  unfold zt_push
  dsimp only
  repeat' split
  all_goals first | exact zt_Gle (by omega) (zt_Gs_next _ (zt_G_write _ _ (by omega) (zt_Gs_top _ (zt_Gs_sp _ (h)))))
def zt_store (u : Zts) (a1 a2 a3 : Int32) : Int32 × Zts :=
  let u1 := zt_write u a1 (ztg_top u)
  let u2 := zts_sp u1 ((ztg_sp u1) - 1)
  let r4 := (zt_read u2 (ztg_sp u2)).1
  let u3 := (zt_read u2 (ztg_sp u2)).2
  let u5 := zts_top u3 r4
  let u6 := zts_next u5 ((ztg_pc u5) + a2)
  (a3, u6)
set_option maxHeartbeats 4000000 in
set_option maxRecDepth 100000 in
theorem ztM_store (l : Launch) (k : Ztk) (Dk : ZtD k) (u : Zts) (a1 a2 a3 : Int32) {w0 : Nat → Int32} (hN : ZtG w0 4 u) : Met l yX1_store (.code yX1_store cX1_store 4 (some .int) :: zwT) (zrm 2) (ZtB k [.ref (zta_this k), .int a1, .int a2, .int a3] u) (ZtQ k (some (.int (zt_store u a1 a2 a3).1)) (zt_store u a1 a2 a3).2) 0 0 (ZtA k) := by
  refine ztE_in (by decide) rfl (Nat.le_of_ble_eq_true rfl) Dk ?_
  intro p e s m below meth c ls C hr hlk hP hl
  have hx := C.1.1
  have hb := C.1.2.1
  have hl : lv_has ls 4 [(0, .ref (zta_this k)), (1, .int a1), (2, .int a2), (3, .int a3)] := hl
  have hS : va_S (ZtA k) s.heap s.heap [] := va_S.rf
  refine lv_aload_n hx hb dX1_store_0 rfl (lv_at hl 0 rfl) ?_
  refine lv_iload_n hx hb dX1_store_1 rfl (lv_at hl 1 rfl) ?_
  refine lv_aload_n hx hb dX1_store_2 rfl (lv_at hl 0 rfl) ?_
  refine ztG_top C hP dX1_store_3 ?_
  refine ztK_write C hP hS hl.1 (by decide) (Nat.le_of_ble_eq_true rfl) (by exact zt_Gle (by decide) (hN)) dX1_store_6 (fun u1 H locs hu1 hP hS => ?_)
  refine lv_aload_n hx hb dX1_store_9 rfl (lv_at hl 0 rfl) ?_
  refine lv_dup hx hb dX1_store_10 rfl ?_
  refine ztG_sp C hP dX1_store_11 ?_
  refine lv_iconst (v := 1) hx hb dX1_store_14 (by decide) ?_
  refine lv_isub hx hb dX1_store_15 ?_
  refine ztP_sp C hP hS dX1_store_16 (fun u2 H locs hu2 hP hS => ?_)
  refine lv_aload_n hx hb dX1_store_19 rfl (lv_at hl 0 rfl) ?_
  refine lv_aload_n hx hb dX1_store_20 rfl (lv_at hl 0 rfl) ?_
  refine lv_aload_n hx hb dX1_store_21 rfl (lv_at hl 0 rfl) ?_
  refine ztG_sp C hP dX1_store_22 ?_
  refine ztK_read C hP hS hl.1 (by decide) (Nat.le_of_ble_eq_true rfl) dX1_store_25 (fun r4 u3 H locs hr4 hu3 hP hS => ?_)
  refine ztP_top C hP hS dX1_store_28 (fun u5 H locs hu5 hP hS => ?_)
  refine lv_aload_n hx hb dX1_store_31 rfl (lv_at hl 0 rfl) ?_
  refine lv_aload_n hx hb dX1_store_32 rfl (lv_at hl 0 rfl) ?_
  refine ztG_pc C hP dX1_store_33 ?_
  refine lv_iload_n hx hb dX1_store_36 rfl (lv_at hl 2 rfl) ?_
  refine lv_iadd hx hb dX1_store_37 ?_
  refine ztP_next C hP hS dX1_store_38 (fun u6 H locs hu6 hP hS => ?_)
  refine lv_iload_n hx hb dX1_store_41 rfl (lv_at hl 3 rfl) ?_
  exact zt_iret C hr hlk hP hS (by subst hu1 hu2 hr4 hu3 hu5 hu6; exact rfl) dX1_store_42
section
variable {p : Program} {l : Launch} {e : Env} {R : Room} {s : State} {m : MethodId} {args : Array Value} {below : List Frame} {meth : Method} {c : Code} {H : Heap} {locs : List Loc} {Q : State → Prop} {cc : ByteArray} {pc nL : Nat} {ls : Array Slot} {rest : List Value} {k : Ztk} {u : Zts} {H0 : Heap}
set_option maxHeartbeats 4000000 in
set_option maxRecDepth 100000 in
theorem ztK_store {a1 a2 a3 : Int32} (C : ZtC p s m args c cc nL k) (hP : ZtP k u H) (hS : va_S (ZtA k) H0 H locs) (hsz : ls.size = nL) (hR : 2 + 1 ≤ R.frames ∧ 8 + (4 + 11) + 40 * 2 ≤ R.locals) (hw : (rest.map fun v => v.category).sum ≤ 8) {w0 : Nat → Int32} (hN : ZtG w0 4 u) (hdg : decode cc pc = .ok (.invokevirtual 85, 3)) (kk : ∀ (r1 : Int32) (u1 : Zts) (H1 : Heap) (locs1 : List Loc), r1 = (zt_store u a1 a2 a3).1 → u1 = (zt_store u a1 a2 a3).2 → ZtP k u1 H1 → va_S (ZtA k) H0 H1 locs1 → W p l e R s m args below meth c H1 locs1 0 0 Q (F0 m (pc + 3) ls (.int r1 :: rest))) : W p l e R s m args below meth c H locs 0 0 Q (F0 m pc ls (.int a3 :: .int a2 :: .int a1 :: .ref (zta_this k) :: rest)) :=
  zt_callV (y := yX1_store) (n := 3) (As := [.int a1, .int a2, .int a3]) C (ztM_store l k C.2.2 u a1 a2 a3 hN) zwT_c_store zwT_l_store zwT_i_store zwT_v_store rfl (by decide +kernel) hP hS hsz hR hw rfl hdg (fun H1 locs1 hP1 hS1 => kk _ _ H1 locs1 rfl rfl hP1 hS1)
end
theorem zt_G_store {w0 : Nat → Int32} {n : Nat} {u : Zts} (a1 a2 a3 : Int32) (hn : n ≤ 4) (h : ZtG w0 n u) : ZtG w0 (n + 1) (zt_store u a1 a2 a3).2 := by
  unfold zt_store
  dsimp only
  repeat' split
  all_goals first | exact zt_Gle (by omega) (zt_Gs_next _ (zt_Gs_top _ (zt_G_read _ (zt_Gs_sp _ (zt_G_write _ _ (by omega) (h))))))
def zt_swap (u : Zts) : Int32 × Zts :=
  let r2 := (zt_read u ((ztg_sp u) - 1)).1
  let u1 := (zt_read u ((ztg_sp u) - 1)).2
  let u3 := zt_write u1 (ztg_sp u1) r2
  let u4 := zt_write u3 ((ztg_sp u3) - 1) (ztg_top u3)
  let u5 := zts_top u4 r2
  (7, u5)
set_option maxHeartbeats 4000000 in
set_option maxRecDepth 100000 in
theorem ztM_swap (l : Launch) (k : Ztk) (Dk : ZtD k) (u : Zts) {w0 : Nat → Int32} (hN : ZtG w0 4 u) : Met l yX1_swap (.code yX1_swap cX1_swap 2 (some .int) :: zwT) (zrm 2) (ZtB k [.ref (zta_this k)] u) (ZtQ k (some (.int (zt_swap u ).1)) (zt_swap u ).2) 0 0 (ZtA k) := by
  refine ztE_in (by decide) rfl (Nat.le_of_ble_eq_true rfl) Dk ?_
  intro p e s m below meth c ls C hr hlk hP hl
  have hx := C.1.1
  have hb := C.1.2.1
  have hl : lv_has ls 2 [(0, .ref (zta_this k))] := hl
  have hS : va_S (ZtA k) s.heap s.heap [] := va_S.rf
  refine lv_aload_n hx hb dX1_swap_0 rfl (lv_at hl 0 rfl) ?_
  refine lv_aload_n hx hb dX1_swap_1 rfl (lv_at hl 0 rfl) ?_
  refine ztG_sp C hP dX1_swap_2 ?_
  refine lv_iconst (v := 1) hx hb dX1_swap_5 (by decide) ?_
  refine lv_isub hx hb dX1_swap_6 ?_
  refine ztK_read C hP hS hl.1 (by decide) (Nat.le_of_ble_eq_true rfl) dX1_swap_7 (fun r2 u1 H locs hr2 hu1 hP hS => ?_)
  refine lv_istore_n (lv' := [(1, .int r2), (0, .ref (zta_this k))]) hx hb dX1_swap_10 rfl hl (by decide) rfl (fun ls hl => ?_)
  refine lv_aload_n hx hb dX1_swap_11 rfl (lv_at hl 1 rfl) ?_
  refine lv_aload_n hx hb dX1_swap_12 rfl (lv_at hl 1 rfl) ?_
  refine ztG_sp C hP dX1_swap_13 ?_
  refine lv_iload_n hx hb dX1_swap_16 rfl (lv_at hl 0 rfl) ?_
  refine ztK_write C hP hS hl.1 (by decide) (Nat.le_of_ble_eq_true rfl) (by subst hr2 hu1; exact zt_Gle (by decide) (zt_G_read _ (hN))) dX1_swap_17 (fun u3 H locs hu3 hP hS => ?_)
  refine lv_aload_n hx hb dX1_swap_20 rfl (lv_at hl 1 rfl) ?_
  refine lv_aload_n hx hb dX1_swap_21 rfl (lv_at hl 1 rfl) ?_
  refine ztG_sp C hP dX1_swap_22 ?_
  refine lv_iconst (v := 1) hx hb dX1_swap_25 (by decide) ?_
  refine lv_isub hx hb dX1_swap_26 ?_
  refine lv_aload_n hx hb dX1_swap_27 rfl (lv_at hl 1 rfl) ?_
  refine ztG_top C hP dX1_swap_28 ?_
  refine ztK_write C hP hS hl.1 (by decide) (Nat.le_of_ble_eq_true rfl) (by subst hr2 hu1 hu3; exact zt_Gle (by decide) (zt_G_write _ _ (by omega) (zt_G_read _ (hN)))) dX1_swap_31 (fun u4 H locs hu4 hP hS => ?_)
  refine lv_aload_n hx hb dX1_swap_34 rfl (lv_at hl 1 rfl) ?_
  refine lv_iload_n hx hb dX1_swap_35 rfl (lv_at hl 0 rfl) ?_
  refine ztP_top C hP hS dX1_swap_36 (fun u5 H locs hu5 hP hS => ?_)
  refine lv_bipush (v := 7) hx hb dX1_swap_39 (by decide) ?_
  exact zt_iret C hr hlk hP hS (by subst hr2 hu1 hu3 hu4 hu5; exact rfl) dX1_swap_41
section
variable {p : Program} {l : Launch} {e : Env} {R : Room} {s : State} {m : MethodId} {args : Array Value} {below : List Frame} {meth : Method} {c : Code} {H : Heap} {locs : List Loc} {Q : State → Prop} {cc : ByteArray} {pc nL : Nat} {ls : Array Slot} {rest : List Value} {k : Ztk} {u : Zts} {H0 : Heap}
set_option maxHeartbeats 4000000 in
set_option maxRecDepth 100000 in
theorem ztK_swap (C : ZtC p s m args c cc nL k) (hP : ZtP k u H) (hS : va_S (ZtA k) H0 H locs) (hsz : ls.size = nL) (hR : 2 + 1 ≤ R.frames ∧ 8 + (2 + 11) + 40 * 2 ≤ R.locals) (hw : (rest.map fun v => v.category).sum ≤ 8) {w0 : Nat → Int32} (hN : ZtG w0 4 u) (hdg : decode cc pc = .ok (.invokevirtual 99, 3)) (kk : ∀ (r1 : Int32) (u1 : Zts) (H1 : Heap) (locs1 : List Loc), r1 = (zt_swap u ).1 → u1 = (zt_swap u ).2 → ZtP k u1 H1 → va_S (ZtA k) H0 H1 locs1 → W p l e R s m args below meth c H1 locs1 0 0 Q (F0 m (pc + 3) ls (.int r1 :: rest))) : W p l e R s m args below meth c H locs 0 0 Q (F0 m pc ls (.ref (zta_this k) :: rest)) :=
  zt_callV (y := yX1_swap) (n := 0) (As := []) C (ztM_swap l k C.2.2 u  hN) zwT_c_swap zwT_l_swap zwT_i_swap zwT_v_swap rfl (by decide +kernel) hP hS hsz hR hw rfl hdg (fun H1 locs1 hP1 hS1 => kk _ _ H1 locs1 rfl rfl hP1 hS1)
end
theorem zt_G_swap {w0 : Nat → Int32} {n : Nat} {u : Zts} (hn : n ≤ 4) (h : ZtG w0 n u) : ZtG w0 (n + 2) (zt_swap u ).2 := by
  unfold zt_swap
  dsimp only
  repeat' split
  all_goals first | exact zt_Gle (by omega) (zt_Gs_top _ (zt_G_write _ _ (by omega) (zt_G_write _ _ (by omega) (zt_G_read _ (h)))))
end
section
def zt_wide (u : Zts) : Int32 × Zts :=
  let r2 := (zt_byteAt u ((ztg_pc u) + 1)).1
  let u1 := (zt_byteAt u ((ztg_pc u) + 1)).2
  if (ztg_amiss u1) = 0 then (
    if r2 = 21 then (
      let u16 := zts_unknown u1 0
      if (ztg_amiss u16) = 0 then (
        let r19 := (zt_pair u16 ((ztg_pc u16) + 2)).1
        let u18 := (zt_pair u16 ((ztg_pc u16) + 2)).2
        if r2 = 21 then (
          let r24 := (zt_read u18 ((ztg_lv u16) + r19)).1
          let u23 := (zt_read u18 ((ztg_lv u16) + r19)).2
          let r26 := (zt_push u23 r24 4 10).1
          let u25 := (zt_push u23 r24 4 10).2
          (r26, u25))
        else (
          let r22 := (zt_store u18 ((ztg_lv u16) + r19) 4 11).1
          let u21 := (zt_store u18 ((ztg_lv u16) + r19) 4 11).2
          (r22, u21)))
      else (
        (0, u16)))
    else (
      if r2 = 54 then (
        let u28 := zts_unknown u1 0
        if (ztg_amiss u28) = 0 then (
          let r31 := (zt_pair u28 ((ztg_pc u28) + 2)).1
          let u30 := (zt_pair u28 ((ztg_pc u28) + 2)).2
          if r2 = 21 then (
            let r36 := (zt_read u30 ((ztg_lv u28) + r31)).1
            let u35 := (zt_read u30 ((ztg_lv u28) + r31)).2
            let r38 := (zt_push u35 r36 4 10).1
            let u37 := (zt_push u35 r36 4 10).2
            (r38, u37))
          else (
            let r34 := (zt_store u30 ((ztg_lv u28) + r31) 4 11).1
            let u33 := (zt_store u30 ((ztg_lv u28) + r31) 4 11).2
            (r34, u33)))
        else (
          (0, u28)))
      else (
        let u39 := zts_unknown u1 1
        if (ztg_amiss u39) = 0 then (
          (0, u39))
        else (
          (0, u39)))))
  else (
    let u4 := zts_unknown u1 0
    if (ztg_amiss u4) = 0 then (
      let r7 := (zt_pair u4 ((ztg_pc u4) + 2)).1
      let u6 := (zt_pair u4 ((ztg_pc u4) + 2)).2
      if r2 = 21 then (
        let r12 := (zt_read u6 ((ztg_lv u4) + r7)).1
        let u11 := (zt_read u6 ((ztg_lv u4) + r7)).2
        let r14 := (zt_push u11 r12 4 10).1
        let u13 := (zt_push u11 r12 4 10).2
        (r14, u13))
      else (
        let r10 := (zt_store u6 ((ztg_lv u4) + r7) 4 11).1
        let u9 := (zt_store u6 ((ztg_lv u4) + r7) 4 11).2
        (r10, u9)))
    else (
      (0, u4)))
set_option maxHeartbeats 4000000 in
set_option maxRecDepth 100000 in
theorem ztM_wide (l : Launch) (k : Ztk) (Dk : ZtD k) (u : Zts) {w0 : Nat → Int32} (hN : ZtG w0 4 u) : Met l yX1_wide (.code yX1_wide cX1_wide 3 (some .int) :: zwT) (zrm 3) (ZtB k [.ref (zta_this k)] u) (ZtQ k (some (.int (zt_wide u ).1)) (zt_wide u ).2) 0 0 (ZtA k) := by
  refine ztE_in (by decide) rfl (Nat.le_of_ble_eq_true rfl) Dk ?_
  intro p e s m below meth c ls C hr hlk hP hl
  have hx := C.1.1
  have hb := C.1.2.1
  have hl : lv_has ls 3 [(0, .ref (zta_this k))] := hl
  have hS : va_S (ZtA k) s.heap s.heap [] := va_S.rf
  refine lv_aload_n hx hb dX1_wide_0 rfl (lv_at hl 0 rfl) ?_
  refine lv_aload_n hx hb dX1_wide_1 rfl (lv_at hl 0 rfl) ?_
  refine ztG_pc C hP dX1_wide_2 ?_
  refine lv_iconst (v := 1) hx hb dX1_wide_5 (by decide) ?_
  refine lv_iadd hx hb dX1_wide_6 ?_
  refine ztK_byteAt C hP hS hl.1 (by decide) (Nat.le_of_ble_eq_true rfl) dX1_wide_7 (fun r2 u1 H locs hr2 hu1 hP hS => ?_)
  refine lv_istore_n (lv' := [(1, .int r2), (0, .ref (zta_this k))]) hx hb dX1_wide_10 rfl hl (by decide) rfl (fun ls hl => ?_)
  refine lv_aload_n hx hb dX1_wide_11 rfl (lv_at hl 1 rfl) ?_
  refine lv_aload_n hx hb dX1_wide_12 rfl (lv_at hl 1 rfl) ?_
  refine ztG_amiss C hP dX1_wide_13 ?_
  refine lv_if_ne (tgt := 35) hx hb dX1_wide_16 (by decide) (fun c3 => ?_) (fun c3 => ?_)
  · refine lv_iconst (v := 0) hx hb dX1_wide_35 (by decide) ?_
    refine ztP_unknown C hP hS rfl rfl dX1_wide_36 (fun u4 H locs hu4 hP hS => ?_)
    refine lv_aload_n hx hb dX1_wide_39 rfl (lv_at hl 1 rfl) ?_
    refine ztG_amiss C hP dX1_wide_40 ?_
    refine lv_if_ne (tgt := 53) hx hb dX1_wide_43 (by decide) (fun c5 => ?_) (fun c5 => ?_)
    · refine lv_iconst (v := 0) hx hb dX1_wide_53 (by decide) ?_
      exact zt_iret C hr hlk hP hS (by subst hr2 hu1 hu4; exact (if_neg c3).trans ((if_neg c5).trans (rfl))) dX1_wide_54
    · refine lv_aload_n hx hb dX1_wide_46 rfl (lv_at hl 1 rfl) ?_
      refine ztG_unknown C hP dX1_wide_47 ?_
      refine lv_if_eq (tgt := 55) hx hb dX1_wide_50 (by decide) (fun _ => ?_) (fun q => absurd (show ¬ ((0 : Int32) = 0) by subst hr2 hu1 hu4; exact q) (by decide))
      refine lv_aload_n hx hb dX1_wide_55 rfl (lv_at hl 1 rfl) ?_
      refine ztG_lv C hP dX1_wide_56 ?_
      refine lv_aload_n hx hb dX1_wide_59 rfl (lv_at hl 1 rfl) ?_
      refine lv_aload_n hx hb dX1_wide_60 rfl (lv_at hl 1 rfl) ?_
      refine ztG_pc C hP dX1_wide_61 ?_
      refine lv_iconst (v := 2) hx hb dX1_wide_64 (by decide) ?_
      refine lv_iadd hx hb dX1_wide_65 ?_
      refine ztK_pair C hP hS hl.1 (by decide) (Nat.le_of_ble_eq_true rfl) dX1_wide_66 (fun r7 u6 H locs hr7 hu6 hP hS => ?_)
      refine lv_iadd hx hb dX1_wide_69 ?_
      refine lv_istore_n (lv' := [(2, .int ((ztg_lv u4) + r7)), (1, .int r2), (0, .ref (zta_this k))]) hx hb dX1_wide_70 rfl hl (by decide) rfl (fun ls hl => ?_)
      refine lv_iload_n hx hb dX1_wide_71 rfl (lv_at hl 1 rfl) ?_
      refine lv_bipush (v := 21) hx hb dX1_wide_72 (by decide) ?_
      refine lv_icmp_ne (tgt := 92) hx hb dX1_wide_74 (by decide) (fun c8 => ?_) (fun c8 => ?_)
      · refine lv_aload_n hx hb dX1_wide_92 rfl (lv_at hl 2 rfl) ?_
        refine lv_iload_n hx hb dX1_wide_93 rfl (lv_at hl 0 rfl) ?_
        refine lv_iconst (v := 4) hx hb dX1_wide_94 (by decide) ?_
        refine lv_bipush (v := 11) hx hb dX1_wide_95 (by decide) ?_
        refine ztK_store C hP hS hl.1 (by decide) (Nat.le_of_ble_eq_true rfl) (by subst hr2 hu1 hu4 hr7 hu6; exact zt_Gle (by decide) (zt_G_pair _ (zt_Gs_unknown _ (zt_G_byteAt _ (hN))))) dX1_wide_97 (fun r10 u9 H locs hr10 hu9 hP hS => ?_)
        exact zt_iret C hr hlk hP hS (by subst hr2 hu1 hu4 hr7 hu6 hr10 hu9; exact (if_neg c3).trans ((if_pos c5).trans ((if_neg c8).trans (rfl)))) dX1_wide_100
      · refine lv_aload_n hx hb dX1_wide_77 rfl (lv_at hl 2 rfl) ?_
        refine lv_aload_n hx hb dX1_wide_78 rfl (lv_at hl 2 rfl) ?_
        refine lv_iload_n hx hb dX1_wide_79 rfl (lv_at hl 0 rfl) ?_
        refine ztK_read C hP hS hl.1 (by decide) (Nat.le_of_ble_eq_true rfl) dX1_wide_80 (fun r12 u11 H locs hr12 hu11 hP hS => ?_)
        refine lv_iconst (v := 4) hx hb dX1_wide_83 (by decide) ?_
        refine lv_bipush (v := 10) hx hb dX1_wide_84 (by decide) ?_
        refine ztK_push C hP hS hl.1 (by decide) (Nat.le_of_ble_eq_true rfl) (by subst hr2 hu1 hu4 hr7 hu6 hr12 hu11; exact zt_Gle (by decide) (zt_G_read _ (zt_G_pair _ (zt_Gs_unknown _ (zt_G_byteAt _ (hN)))))) dX1_wide_86 (fun r14 u13 H locs hr14 hu13 hP hS => ?_)
        refine lv_goto (tgt := 100) hx hb dX1_wide_89 (by decide) ?_
        exact zt_iret C hr hlk hP hS (by subst hr2 hu1 hu4 hr7 hu6 hr12 hu11 hr14 hu13; exact (if_neg c3).trans ((if_pos c5).trans ((if_pos c8).trans (rfl)))) dX1_wide_100
  · refine lv_iload_n hx hb dX1_wide_19 rfl (lv_at hl 0 rfl) ?_
    refine lv_bipush (v := 21) hx hb dX1_wide_20 (by decide) ?_
    refine lv_icmp_eq (tgt := 35) hx hb dX1_wide_22 (by decide) (fun c15 => ?_) (fun c15 => ?_)
    · refine lv_iconst (v := 0) hx hb dX1_wide_35 (by decide) ?_
      refine ztP_unknown C hP hS rfl rfl dX1_wide_36 (fun u16 H locs hu16 hP hS => ?_)
      refine lv_aload_n hx hb dX1_wide_39 rfl (lv_at hl 1 rfl) ?_
      refine ztG_amiss C hP dX1_wide_40 ?_
      refine lv_if_ne (tgt := 53) hx hb dX1_wide_43 (by decide) (fun c17 => ?_) (fun c17 => ?_)
      · refine lv_iconst (v := 0) hx hb dX1_wide_53 (by decide) ?_
        exact zt_iret C hr hlk hP hS (by subst hr2 hu1 hu16; exact (if_pos c3).trans ((if_pos c15).trans ((if_neg c17).trans (rfl)))) dX1_wide_54
      · refine lv_aload_n hx hb dX1_wide_46 rfl (lv_at hl 1 rfl) ?_
        refine ztG_unknown C hP dX1_wide_47 ?_
        refine lv_if_eq (tgt := 55) hx hb dX1_wide_50 (by decide) (fun _ => ?_) (fun q => absurd (show ¬ ((0 : Int32) = 0) by subst hr2 hu1 hu16; exact q) (by decide))
        refine lv_aload_n hx hb dX1_wide_55 rfl (lv_at hl 1 rfl) ?_
        refine ztG_lv C hP dX1_wide_56 ?_
        refine lv_aload_n hx hb dX1_wide_59 rfl (lv_at hl 1 rfl) ?_
        refine lv_aload_n hx hb dX1_wide_60 rfl (lv_at hl 1 rfl) ?_
        refine ztG_pc C hP dX1_wide_61 ?_
        refine lv_iconst (v := 2) hx hb dX1_wide_64 (by decide) ?_
        refine lv_iadd hx hb dX1_wide_65 ?_
        refine ztK_pair C hP hS hl.1 (by decide) (Nat.le_of_ble_eq_true rfl) dX1_wide_66 (fun r19 u18 H locs hr19 hu18 hP hS => ?_)
        refine lv_iadd hx hb dX1_wide_69 ?_
        refine lv_istore_n (lv' := [(2, .int ((ztg_lv u16) + r19)), (1, .int r2), (0, .ref (zta_this k))]) hx hb dX1_wide_70 rfl hl (by decide) rfl (fun ls hl => ?_)
        refine lv_iload_n hx hb dX1_wide_71 rfl (lv_at hl 1 rfl) ?_
        refine lv_bipush (v := 21) hx hb dX1_wide_72 (by decide) ?_
        refine lv_icmp_ne (tgt := 92) hx hb dX1_wide_74 (by decide) (fun c20 => ?_) (fun c20 => ?_)
        · refine lv_aload_n hx hb dX1_wide_92 rfl (lv_at hl 2 rfl) ?_
          refine lv_iload_n hx hb dX1_wide_93 rfl (lv_at hl 0 rfl) ?_
          refine lv_iconst (v := 4) hx hb dX1_wide_94 (by decide) ?_
          refine lv_bipush (v := 11) hx hb dX1_wide_95 (by decide) ?_
          refine ztK_store C hP hS hl.1 (by decide) (Nat.le_of_ble_eq_true rfl) (by subst hr2 hu1 hu16 hr19 hu18; exact zt_Gle (by decide) (zt_G_pair _ (zt_Gs_unknown _ (zt_G_byteAt _ (hN))))) dX1_wide_97 (fun r22 u21 H locs hr22 hu21 hP hS => ?_)
          exact zt_iret C hr hlk hP hS (by subst hr2 hu1 hu16 hr19 hu18 hr22 hu21; exact (if_pos c3).trans ((if_pos c15).trans ((if_pos c17).trans ((if_neg c20).trans (rfl))))) dX1_wide_100
        · refine lv_aload_n hx hb dX1_wide_77 rfl (lv_at hl 2 rfl) ?_
          refine lv_aload_n hx hb dX1_wide_78 rfl (lv_at hl 2 rfl) ?_
          refine lv_iload_n hx hb dX1_wide_79 rfl (lv_at hl 0 rfl) ?_
          refine ztK_read C hP hS hl.1 (by decide) (Nat.le_of_ble_eq_true rfl) dX1_wide_80 (fun r24 u23 H locs hr24 hu23 hP hS => ?_)
          refine lv_iconst (v := 4) hx hb dX1_wide_83 (by decide) ?_
          refine lv_bipush (v := 10) hx hb dX1_wide_84 (by decide) ?_
          refine ztK_push C hP hS hl.1 (by decide) (Nat.le_of_ble_eq_true rfl) (by subst hr2 hu1 hu16 hr19 hu18 hr24 hu23; exact zt_Gle (by decide) (zt_G_read _ (zt_G_pair _ (zt_Gs_unknown _ (zt_G_byteAt _ (hN)))))) dX1_wide_86 (fun r26 u25 H locs hr26 hu25 hP hS => ?_)
          refine lv_goto (tgt := 100) hx hb dX1_wide_89 (by decide) ?_
          exact zt_iret C hr hlk hP hS (by subst hr2 hu1 hu16 hr19 hu18 hr24 hu23 hr26 hu25; exact (if_pos c3).trans ((if_pos c15).trans ((if_pos c17).trans ((if_pos c20).trans (rfl))))) dX1_wide_100
    · refine lv_iload_n hx hb dX1_wide_25 rfl (lv_at hl 0 rfl) ?_
      refine lv_bipush (v := 54) hx hb dX1_wide_26 (by decide) ?_
      refine lv_icmp_eq (tgt := 35) hx hb dX1_wide_28 (by decide) (fun c27 => ?_) (fun c27 => ?_)
      · refine lv_iconst (v := 0) hx hb dX1_wide_35 (by decide) ?_
        refine ztP_unknown C hP hS rfl rfl dX1_wide_36 (fun u28 H locs hu28 hP hS => ?_)
        refine lv_aload_n hx hb dX1_wide_39 rfl (lv_at hl 1 rfl) ?_
        refine ztG_amiss C hP dX1_wide_40 ?_
        refine lv_if_ne (tgt := 53) hx hb dX1_wide_43 (by decide) (fun c29 => ?_) (fun c29 => ?_)
        · refine lv_iconst (v := 0) hx hb dX1_wide_53 (by decide) ?_
          exact zt_iret C hr hlk hP hS (by subst hr2 hu1 hu28; exact (if_pos c3).trans ((if_neg c15).trans ((if_pos c27).trans ((if_neg c29).trans (rfl))))) dX1_wide_54
        · refine lv_aload_n hx hb dX1_wide_46 rfl (lv_at hl 1 rfl) ?_
          refine ztG_unknown C hP dX1_wide_47 ?_
          refine lv_if_eq (tgt := 55) hx hb dX1_wide_50 (by decide) (fun _ => ?_) (fun q => absurd (show ¬ ((0 : Int32) = 0) by subst hr2 hu1 hu28; exact q) (by decide))
          refine lv_aload_n hx hb dX1_wide_55 rfl (lv_at hl 1 rfl) ?_
          refine ztG_lv C hP dX1_wide_56 ?_
          refine lv_aload_n hx hb dX1_wide_59 rfl (lv_at hl 1 rfl) ?_
          refine lv_aload_n hx hb dX1_wide_60 rfl (lv_at hl 1 rfl) ?_
          refine ztG_pc C hP dX1_wide_61 ?_
          refine lv_iconst (v := 2) hx hb dX1_wide_64 (by decide) ?_
          refine lv_iadd hx hb dX1_wide_65 ?_
          refine ztK_pair C hP hS hl.1 (by decide) (Nat.le_of_ble_eq_true rfl) dX1_wide_66 (fun r31 u30 H locs hr31 hu30 hP hS => ?_)
          refine lv_iadd hx hb dX1_wide_69 ?_
          refine lv_istore_n (lv' := [(2, .int ((ztg_lv u28) + r31)), (1, .int r2), (0, .ref (zta_this k))]) hx hb dX1_wide_70 rfl hl (by decide) rfl (fun ls hl => ?_)
          refine lv_iload_n hx hb dX1_wide_71 rfl (lv_at hl 1 rfl) ?_
          refine lv_bipush (v := 21) hx hb dX1_wide_72 (by decide) ?_
          refine lv_icmp_ne (tgt := 92) hx hb dX1_wide_74 (by decide) (fun c32 => ?_) (fun c32 => ?_)
          · refine lv_aload_n hx hb dX1_wide_92 rfl (lv_at hl 2 rfl) ?_
            refine lv_iload_n hx hb dX1_wide_93 rfl (lv_at hl 0 rfl) ?_
            refine lv_iconst (v := 4) hx hb dX1_wide_94 (by decide) ?_
            refine lv_bipush (v := 11) hx hb dX1_wide_95 (by decide) ?_
            refine ztK_store C hP hS hl.1 (by decide) (Nat.le_of_ble_eq_true rfl) (by subst hr2 hu1 hu28 hr31 hu30; exact zt_Gle (by decide) (zt_G_pair _ (zt_Gs_unknown _ (zt_G_byteAt _ (hN))))) dX1_wide_97 (fun r34 u33 H locs hr34 hu33 hP hS => ?_)
            exact zt_iret C hr hlk hP hS (by subst hr2 hu1 hu28 hr31 hu30 hr34 hu33; exact (if_pos c3).trans ((if_neg c15).trans ((if_pos c27).trans ((if_pos c29).trans ((if_neg c32).trans (rfl)))))) dX1_wide_100
          · refine lv_aload_n hx hb dX1_wide_77 rfl (lv_at hl 2 rfl) ?_
            refine lv_aload_n hx hb dX1_wide_78 rfl (lv_at hl 2 rfl) ?_
            refine lv_iload_n hx hb dX1_wide_79 rfl (lv_at hl 0 rfl) ?_
            refine ztK_read C hP hS hl.1 (by decide) (Nat.le_of_ble_eq_true rfl) dX1_wide_80 (fun r36 u35 H locs hr36 hu35 hP hS => ?_)
            refine lv_iconst (v := 4) hx hb dX1_wide_83 (by decide) ?_
            refine lv_bipush (v := 10) hx hb dX1_wide_84 (by decide) ?_
            refine ztK_push C hP hS hl.1 (by decide) (Nat.le_of_ble_eq_true rfl) (by subst hr2 hu1 hu28 hr31 hu30 hr36 hu35; exact zt_Gle (by decide) (zt_G_read _ (zt_G_pair _ (zt_Gs_unknown _ (zt_G_byteAt _ (hN)))))) dX1_wide_86 (fun r38 u37 H locs hr38 hu37 hP hS => ?_)
            refine lv_goto (tgt := 100) hx hb dX1_wide_89 (by decide) ?_
            exact zt_iret C hr hlk hP hS (by subst hr2 hu1 hu28 hr31 hu30 hr36 hu35 hr38 hu37; exact (if_pos c3).trans ((if_neg c15).trans ((if_pos c27).trans ((if_pos c29).trans ((if_pos c32).trans (rfl)))))) dX1_wide_100
      · refine lv_iconst (v := 1) hx hb dX1_wide_31 (by decide) ?_
        refine lv_goto (tgt := 36) hx hb dX1_wide_32 (by decide) ?_
        refine ztP_unknown C hP hS rfl rfl dX1_wide_36 (fun u39 H locs hu39 hP hS => ?_)
        refine lv_aload_n hx hb dX1_wide_39 rfl (lv_at hl 1 rfl) ?_
        refine ztG_amiss C hP dX1_wide_40 ?_
        refine lv_if_ne (tgt := 53) hx hb dX1_wide_43 (by decide) (fun c40 => ?_) (fun c40 => ?_)
        · refine lv_iconst (v := 0) hx hb dX1_wide_53 (by decide) ?_
          exact zt_iret C hr hlk hP hS (by subst hr2 hu1 hu39; exact (if_pos c3).trans ((if_neg c15).trans ((if_neg c27).trans ((if_neg c40).trans (rfl))))) dX1_wide_54
        · refine lv_aload_n hx hb dX1_wide_46 rfl (lv_at hl 1 rfl) ?_
          refine ztG_unknown C hP dX1_wide_47 ?_
          refine lv_if_eq (tgt := 55) hx hb dX1_wide_50 (by decide) (fun q => absurd (show (1 : Int32) = 0 by subst hr2 hu1 hu39; exact q) (by decide)) (fun _ => ?_)
          refine lv_iconst (v := 0) hx hb dX1_wide_53 (by decide) ?_
          exact zt_iret C hr hlk hP hS (by subst hr2 hu1 hu39; exact (if_pos c3).trans ((if_neg c15).trans ((if_neg c27).trans ((if_pos c40).trans (rfl))))) dX1_wide_54
section
variable {p : Program} {l : Launch} {e : Env} {R : Room} {s : State} {m : MethodId} {args : Array Value} {below : List Frame} {meth : Method} {c : Code} {H : Heap} {locs : List Loc} {Q : State → Prop} {cc : ByteArray} {pc nL : Nat} {ls : Array Slot} {rest : List Value} {k : Ztk} {u : Zts} {H0 : Heap}
set_option maxHeartbeats 4000000 in
set_option maxRecDepth 100000 in
theorem ztK_wide (C : ZtC p s m args c cc nL k) (hP : ZtP k u H) (hS : va_S (ZtA k) H0 H locs) (hsz : ls.size = nL) (hR : 3 + 1 ≤ R.frames ∧ 8 + (3 + 11) + 40 * 3 ≤ R.locals) (hw : (rest.map fun v => v.category).sum ≤ 8) {w0 : Nat → Int32} (hN : ZtG w0 4 u) (hdg : decode cc pc = .ok (.invokevirtual 103, 3)) (kk : ∀ (r1 : Int32) (u1 : Zts) (H1 : Heap) (locs1 : List Loc), r1 = (zt_wide u ).1 → u1 = (zt_wide u ).2 → ZtP k u1 H1 → va_S (ZtA k) H0 H1 locs1 → W p l e R s m args below meth c H1 locs1 0 0 Q (F0 m (pc + 3) ls (.int r1 :: rest))) : W p l e R s m args below meth c H locs 0 0 Q (F0 m pc ls (.ref (zta_this k) :: rest)) :=
  zt_callV (y := yX1_wide) (n := 0) (As := []) C (ztM_wide l k C.2.2 u  hN) zwT_c_wide zwT_l_wide zwT_i_wide zwT_v_wide rfl (by decide +kernel) hP hS hsz hR hw rfl hdg (fun H1 locs1 hP1 hS1 => kk _ _ H1 locs1 rfl rfl hP1 hS1)
end
theorem zt_G_wide {w0 : Nat → Int32} {n : Nat} {u : Zts} (hn : n ≤ 4) (h : ZtG w0 n u) : ZtG w0 (n + 1) (zt_wide u ).2 := by
  unfold zt_wide
  dsimp only
  repeat' split
  all_goals first | exact zt_Gle (by omega) (zt_Gs_unknown _ (zt_G_byteAt _ (h))) | exact zt_Gle (by omega) (zt_G_store _ _ _ (by omega) (zt_G_pair _ (zt_Gs_unknown _ (zt_G_byteAt _ (h))))) | exact zt_Gle (by omega) (zt_G_push _ _ _ (by omega) (zt_G_read _ (zt_G_pair _ (zt_Gs_unknown _ (zt_G_byteAt _ (h))))))
def zt_increase (u : Zts) : Int32 × Zts :=
  let r2 := (zt_byteAt u ((ztg_pc u) + 1)).1
  let u1 := (zt_byteAt u ((ztg_pc u) + 1)).2
  let r4 := (zt_byteAt u1 ((ztg_pc u1) + 2)).1
  let u3 := (zt_byteAt u1 ((ztg_pc u1) + 2)).2
  let r6 := (zt_read u3 ((ztg_lv u) + r2)).1
  let u5 := (zt_read u3 ((ztg_lv u) + r2)).2
  let u7 := zt_write u5 ((ztg_lv u) + r2) (r6 + (zt_signed r4 8))
  let u8 := zts_next u7 ((ztg_pc u7) + 3)
  (7, u8)
set_option maxHeartbeats 4000000 in
set_option maxRecDepth 100000 in
theorem ztM_increase (l : Launch) (k : Ztk) (Dk : ZtD k) (u : Zts) {w0 : Nat → Int32} (hN : ZtG w0 4 u) : Met l yX1_increase (.code yX1_increase cX1_increase 3 (some .int) :: zwT) (zrm 2) (ZtB k [.ref (zta_this k)] u) (ZtQ k (some (.int (zt_increase u ).1)) (zt_increase u ).2) 0 0 (ZtA k) := by
  refine ztE_in (by decide) rfl (Nat.le_of_ble_eq_true rfl) Dk ?_
  intro p e s m below meth c ls C hr hlk hP hl
  have hx := C.1.1
  have hb := C.1.2.1
  have hl : lv_has ls 3 [(0, .ref (zta_this k))] := hl
  have hS : va_S (ZtA k) s.heap s.heap [] := va_S.rf
  refine lv_aload_n hx hb dX1_increase_0 rfl (lv_at hl 0 rfl) ?_
  refine ztG_lv C hP dX1_increase_1 ?_
  refine lv_aload_n hx hb dX1_increase_4 rfl (lv_at hl 0 rfl) ?_
  refine lv_aload_n hx hb dX1_increase_5 rfl (lv_at hl 0 rfl) ?_
  refine ztG_pc C hP dX1_increase_6 ?_
  refine lv_iconst (v := 1) hx hb dX1_increase_9 (by decide) ?_
  refine lv_iadd hx hb dX1_increase_10 ?_
  refine ztK_byteAt C hP hS hl.1 (by decide) (Nat.le_of_ble_eq_true rfl) dX1_increase_11 (fun r2 u1 H locs hr2 hu1 hP hS => ?_)
  refine lv_iadd hx hb dX1_increase_14 ?_
  refine lv_istore_n (lv' := [(1, .int ((ztg_lv u) + r2)), (0, .ref (zta_this k))]) hx hb dX1_increase_15 rfl hl (by decide) rfl (fun ls hl => ?_)
  refine lv_aload_n hx hb dX1_increase_16 rfl (lv_at hl 1 rfl) ?_
  refine lv_aload_n hx hb dX1_increase_17 rfl (lv_at hl 1 rfl) ?_
  refine ztG_pc C hP dX1_increase_18 ?_
  refine lv_iconst (v := 2) hx hb dX1_increase_21 (by decide) ?_
  refine lv_iadd hx hb dX1_increase_22 ?_
  refine ztK_byteAt C hP hS hl.1 (by decide) (Nat.le_of_ble_eq_true rfl) dX1_increase_23 (fun r4 u3 H locs hr4 hu3 hP hS => ?_)
  refine lv_bipush (v := 8) hx hb dX1_increase_26 (by decide) ?_
  refine ztK_signed C hl.1 (by decide) (Nat.le_of_ble_eq_true rfl) dX1_increase_28 ?_
  refine lv_istore_n (lv' := [(2, .int (zt_signed r4 8)), (1, .int ((ztg_lv u) + r2)), (0, .ref (zta_this k))]) hx hb dX1_increase_31 rfl hl (by decide) rfl (fun ls hl => ?_)
  refine lv_aload_n hx hb dX1_increase_32 rfl (lv_at hl 2 rfl) ?_
  refine lv_iload_n hx hb dX1_increase_33 rfl (lv_at hl 1 rfl) ?_
  refine lv_aload_n hx hb dX1_increase_34 rfl (lv_at hl 2 rfl) ?_
  refine lv_iload_n hx hb dX1_increase_35 rfl (lv_at hl 1 rfl) ?_
  refine ztK_read C hP hS hl.1 (by decide) (Nat.le_of_ble_eq_true rfl) dX1_increase_36 (fun r6 u5 H locs hr6 hu5 hP hS => ?_)
  refine lv_iload_n hx hb dX1_increase_39 rfl (lv_at hl 0 rfl) ?_
  refine lv_iadd hx hb dX1_increase_40 ?_
  refine ztK_write C hP hS hl.1 (by decide) (Nat.le_of_ble_eq_true rfl) (by subst hr2 hu1 hr4 hu3 hr6 hu5; exact zt_Gle (by decide) (zt_G_read _ (zt_G_byteAt _ (zt_G_byteAt _ (hN))))) dX1_increase_41 (fun u7 H locs hu7 hP hS => ?_)
  refine lv_aload_n hx hb dX1_increase_44 rfl (lv_at hl 2 rfl) ?_
  refine lv_aload_n hx hb dX1_increase_45 rfl (lv_at hl 2 rfl) ?_
  refine ztG_pc C hP dX1_increase_46 ?_
  refine lv_iconst (v := 3) hx hb dX1_increase_49 (by decide) ?_
  refine lv_iadd hx hb dX1_increase_50 ?_
  refine ztP_next C hP hS dX1_increase_51 (fun u8 H locs hu8 hP hS => ?_)
  refine lv_bipush (v := 7) hx hb dX1_increase_54 (by decide) ?_
  exact zt_iret C hr hlk hP hS (by subst hr2 hu1 hr4 hu3 hr6 hu5 hu7 hu8; exact rfl) dX1_increase_56
section
variable {p : Program} {l : Launch} {e : Env} {R : Room} {s : State} {m : MethodId} {args : Array Value} {below : List Frame} {meth : Method} {c : Code} {H : Heap} {locs : List Loc} {Q : State → Prop} {cc : ByteArray} {pc nL : Nat} {ls : Array Slot} {rest : List Value} {k : Ztk} {u : Zts} {H0 : Heap}
set_option maxHeartbeats 4000000 in
set_option maxRecDepth 100000 in
theorem ztK_increase (C : ZtC p s m args c cc nL k) (hP : ZtP k u H) (hS : va_S (ZtA k) H0 H locs) (hsz : ls.size = nL) (hR : 2 + 1 ≤ R.frames ∧ 8 + (3 + 11) + 40 * 2 ≤ R.locals) (hw : (rest.map fun v => v.category).sum ≤ 8) {w0 : Nat → Int32} (hN : ZtG w0 4 u) (hdg : decode cc pc = .ok (.invokevirtual 106, 3)) (kk : ∀ (r1 : Int32) (u1 : Zts) (H1 : Heap) (locs1 : List Loc), r1 = (zt_increase u ).1 → u1 = (zt_increase u ).2 → ZtP k u1 H1 → va_S (ZtA k) H0 H1 locs1 → W p l e R s m args below meth c H1 locs1 0 0 Q (F0 m (pc + 3) ls (.int r1 :: rest))) : W p l e R s m args below meth c H locs 0 0 Q (F0 m pc ls (.ref (zta_this k) :: rest)) :=
  zt_callV (y := yX1_increase) (n := 0) (As := []) C (ztM_increase l k C.2.2 u  hN) zwT_c_increase zwT_l_increase zwT_i_increase zwT_v_increase rfl (by decide +kernel) hP hS hsz hR hw rfl hdg (fun H1 locs1 hP1 hS1 => kk _ _ H1 locs1 rfl rfl hP1 hS1)
end
theorem zt_G_increase {w0 : Nat → Int32} {n : Nat} {u : Zts} (hn : n ≤ 4) (h : ZtG w0 n u) : ZtG w0 (n + 1) (zt_increase u ).2 := by
  unfold zt_increase
  dsimp only
  repeat' split
  all_goals first | exact zt_Gle (by omega) (zt_Gs_next _ (zt_G_write _ _ (by omega) (zt_G_read _ (zt_G_byteAt _ (zt_G_byteAt _ (h))))))
def zt_jump (u : Zts) (a1 a2 a3 : Int32) : Int32 × Zts :=
  if a1 = 0 then (
    let u2 := zts_next u ((ztg_pc u) + 3)
    if a1 = 0 then (
      (a3, u2))
    else (
      (a2, u2)))
  else (
    let r5 := (zt_pair u ((ztg_pc u) + 1)).1
    let u4 := (zt_pair u ((ztg_pc u) + 1)).2
    let u6 := zts_next u4 ((ztg_pc u) + (zt_signed r5 16))
    if a1 = 0 then (
      (a3, u6))
    else (
      (a2, u6)))
set_option maxHeartbeats 4000000 in
set_option maxRecDepth 100000 in
theorem ztM_jump (l : Launch) (k : Ztk) (Dk : ZtD k) (u : Zts) (a1 a2 a3 : Int32) : Met l yX1_jump (.code yX1_jump cX1_jump 4 (some .int) :: zwT) (zrm 2) (ZtB k [.ref (zta_this k), .int a1, .int a2, .int a3] u) (ZtQ k (some (.int (zt_jump u a1 a2 a3).1)) (zt_jump u a1 a2 a3).2) 0 0 (ZtA k) := by
  refine ztE_in (by decide) rfl (Nat.le_of_ble_eq_true rfl) Dk ?_
  intro p e s m below meth c ls C hr hlk hP hl
  have hx := C.1.1
  have hb := C.1.2.1
  have hl : lv_has ls 4 [(0, .ref (zta_this k)), (1, .int a1), (2, .int a2), (3, .int a3)] := hl
  have hS : va_S (ZtA k) s.heap s.heap [] := va_S.rf
  refine lv_aload_n hx hb dX1_jump_0 rfl (lv_at hl 0 rfl) ?_
  refine lv_iload_n hx hb dX1_jump_1 rfl (lv_at hl 1 rfl) ?_
  refine lv_if_eq (tgt := 28) hx hb dX1_jump_2 (by decide) (fun c1 => ?_) (fun c1 => ?_)
  · refine lv_aload_n hx hb dX1_jump_28 rfl (lv_at hl 0 rfl) ?_
    refine ztG_pc C hP dX1_jump_29 ?_
    refine lv_iconst (v := 3) hx hb dX1_jump_32 (by decide) ?_
    refine lv_iadd hx hb dX1_jump_33 ?_
    refine ztP_next C hP hS dX1_jump_34 (fun u2 H locs hu2 hP hS => ?_)
    refine lv_iload_n hx hb dX1_jump_37 rfl (lv_at hl 1 rfl) ?_
    refine lv_if_eq (tgt := 45) hx hb dX1_jump_38 (by decide) (fun c3 => ?_) (fun c3 => ?_)
    · refine lv_iload_n hx hb dX1_jump_45 rfl (lv_at hl 3 rfl) ?_
      exact zt_iret C hr hlk hP hS (by subst hu2; exact (if_pos c1).trans ((if_pos c3).trans (rfl))) dX1_jump_46
    · refine lv_iload_n hx hb dX1_jump_41 rfl (lv_at hl 2 rfl) ?_
      refine lv_goto (tgt := 46) hx hb dX1_jump_42 (by decide) ?_
      exact zt_iret C hr hlk hP hS (by subst hu2; exact (if_pos c1).trans ((if_neg c3).trans (rfl))) dX1_jump_46
  · refine lv_aload_n hx hb dX1_jump_5 rfl (lv_at hl 0 rfl) ?_
    refine ztG_pc C hP dX1_jump_6 ?_
    refine lv_aload_n hx hb dX1_jump_9 rfl (lv_at hl 0 rfl) ?_
    refine lv_aload_n hx hb dX1_jump_10 rfl (lv_at hl 0 rfl) ?_
    refine ztG_pc C hP dX1_jump_11 ?_
    refine lv_iconst (v := 1) hx hb dX1_jump_14 (by decide) ?_
    refine lv_iadd hx hb dX1_jump_15 ?_
    refine ztK_pair C hP hS hl.1 (by decide) (Nat.le_of_ble_eq_true rfl) dX1_jump_16 (fun r5 u4 H locs hr5 hu4 hP hS => ?_)
    refine lv_bipush (v := 16) hx hb dX1_jump_19 (by decide) ?_
    refine ztK_signed C hl.1 (by decide) (Nat.le_of_ble_eq_true rfl) dX1_jump_21 ?_
    refine lv_iadd hx hb dX1_jump_24 ?_
    refine lv_goto (tgt := 34) hx hb dX1_jump_25 (by decide) ?_
    refine ztP_next C hP hS dX1_jump_34 (fun u6 H locs hu6 hP hS => ?_)
    refine lv_iload_n hx hb dX1_jump_37 rfl (lv_at hl 1 rfl) ?_
    refine lv_if_eq (tgt := 45) hx hb dX1_jump_38 (by decide) (fun c7 => ?_) (fun c7 => ?_)
    · refine lv_iload_n hx hb dX1_jump_45 rfl (lv_at hl 3 rfl) ?_
      exact zt_iret C hr hlk hP hS (by subst hr5 hu4 hu6; exact (if_neg c1).trans ((if_pos c7).trans (rfl))) dX1_jump_46
    · refine lv_iload_n hx hb dX1_jump_41 rfl (lv_at hl 2 rfl) ?_
      refine lv_goto (tgt := 46) hx hb dX1_jump_42 (by decide) ?_
      exact zt_iret C hr hlk hP hS (by subst hr5 hu4 hu6; exact (if_neg c1).trans ((if_neg c7).trans (rfl))) dX1_jump_46
section
variable {p : Program} {l : Launch} {e : Env} {R : Room} {s : State} {m : MethodId} {args : Array Value} {below : List Frame} {meth : Method} {c : Code} {H : Heap} {locs : List Loc} {Q : State → Prop} {cc : ByteArray} {pc nL : Nat} {ls : Array Slot} {rest : List Value} {k : Ztk} {u : Zts} {H0 : Heap}
set_option maxHeartbeats 4000000 in
set_option maxRecDepth 100000 in
theorem ztK_jump {a1 a2 a3 : Int32} (C : ZtC p s m args c cc nL k) (hP : ZtP k u H) (hS : va_S (ZtA k) H0 H locs) (hsz : ls.size = nL) (hR : 2 + 1 ≤ R.frames ∧ 8 + (4 + 11) + 40 * 2 ≤ R.locals) (hw : (rest.map fun v => v.category).sum ≤ 8) (hdg : decode cc pc = .ok (.invokevirtual 92, 3)) (kk : ∀ (r1 : Int32) (u1 : Zts) (H1 : Heap) (locs1 : List Loc), r1 = (zt_jump u a1 a2 a3).1 → u1 = (zt_jump u a1 a2 a3).2 → ZtP k u1 H1 → va_S (ZtA k) H0 H1 locs1 → W p l e R s m args below meth c H1 locs1 0 0 Q (F0 m (pc + 3) ls (.int r1 :: rest))) : W p l e R s m args below meth c H locs 0 0 Q (F0 m pc ls (.int a3 :: .int a2 :: .int a1 :: .ref (zta_this k) :: rest)) :=
  zt_callV (y := yX1_jump) (n := 3) (As := [.int a1, .int a2, .int a3]) C (ztM_jump l k C.2.2 u a1 a2 a3 ) zwT_c_jump zwT_l_jump zwT_i_jump zwT_v_jump rfl (by decide +kernel) hP hS hsz hR hw rfl hdg (fun H1 locs1 hP1 hS1 => kk _ _ H1 locs1 rfl rfl hP1 hS1)
end
theorem zt_G_jump {w0 : Nat → Int32} {n : Nat} {u : Zts} (a1 a2 a3 : Int32) (h : ZtG w0 n u) : ZtG w0 (n + 0) (zt_jump u a1 a2 a3).2 := by
  unfold zt_jump
  dsimp only
  repeat' split
  all_goals first | exact zt_Gle (by omega) (zt_Gs_next _ (h)) | exact zt_Gle (by omega) (zt_Gs_next _ (zt_G_pair _ (h)))
def zt_ifs (u : Zts) (a1 : Int32) : Int32 × Zts :=
  if a1 = 159 then (
    let r46 := (zt_read u ((ztg_sp u) - 1)).1
    let u45 := (zt_read u ((ztg_sp u) - 1)).2
    if a1 = 159 then (
      let u69 := zts_sp u45 ((ztg_sp u45) - 2)
      let r71 := (zt_read u69 (ztg_sp u69)).1
      let u70 := (zt_read u69 (ztg_sp u69)).2
      let u72 := zts_top u70 r71
      if a1 = 159 then (
        if (ztg_top u) = r46 then (
          let r89 := (zt_jump u72 1 13 10).1
          let u88 := (zt_jump u72 1 13 10).2
          (r89, u88))
        else (
          let r87 := (zt_jump u72 0 13 10).1
          let u86 := (zt_jump u72 0 13 10).2
          (r87, u86)))
      else (
        if a1 = 155 then (
          if 0 ≤ (ztg_top u) then (
            let r82 := (zt_jump u72 0 11 8).1
            let u81 := (zt_jump u72 0 11 8).2
            (r82, u81))
          else (
            let r84 := (zt_jump u72 1 11 8).1
            let u83 := (zt_jump u72 1 11 8).2
            (r84, u83)))
        else (
          if (ztg_top u) = 0 then (
            let r79 := (zt_jump u72 1 11 8).1
            let u78 := (zt_jump u72 1 11 8).2
            (r79, u78))
          else (
            let r77 := (zt_jump u72 0 11 8).1
            let u76 := (zt_jump u72 0 11 8).2
            (r77, u76)))))
    else (
      let u48 := zts_sp u45 ((ztg_sp u45) - 1)
      let r50 := (zt_read u48 (ztg_sp u48)).1
      let u49 := (zt_read u48 (ztg_sp u48)).2
      let u51 := zts_top u49 r50
      if a1 = 159 then (
        if (ztg_top u) = r46 then (
          let r68 := (zt_jump u51 1 13 10).1
          let u67 := (zt_jump u51 1 13 10).2
          (r68, u67))
        else (
          let r66 := (zt_jump u51 0 13 10).1
          let u65 := (zt_jump u51 0 13 10).2
          (r66, u65)))
      else (
        if a1 = 155 then (
          if 0 ≤ (ztg_top u) then (
            let r61 := (zt_jump u51 0 11 8).1
            let u60 := (zt_jump u51 0 11 8).2
            (r61, u60))
          else (
            let r63 := (zt_jump u51 1 11 8).1
            let u62 := (zt_jump u51 1 11 8).2
            (r63, u62)))
        else (
          if (ztg_top u) = 0 then (
            let r58 := (zt_jump u51 1 11 8).1
            let u57 := (zt_jump u51 1 11 8).2
            (r58, u57))
          else (
            let r56 := (zt_jump u51 0 11 8).1
            let u55 := (zt_jump u51 0 11 8).2
            (r56, u55))))))
  else (
    if a1 = 159 then (
      let u24 := zts_sp u ((ztg_sp u) - 2)
      let r26 := (zt_read u24 (ztg_sp u24)).1
      let u25 := (zt_read u24 (ztg_sp u24)).2
      let u27 := zts_top u25 r26
      if a1 = 159 then (
        if (ztg_top u) = 0 then (
          let r44 := (zt_jump u27 1 13 10).1
          let u43 := (zt_jump u27 1 13 10).2
          (r44, u43))
        else (
          let r42 := (zt_jump u27 0 13 10).1
          let u41 := (zt_jump u27 0 13 10).2
          (r42, u41)))
      else (
        if a1 = 155 then (
          if 0 ≤ (ztg_top u) then (
            let r37 := (zt_jump u27 0 11 8).1
            let u36 := (zt_jump u27 0 11 8).2
            (r37, u36))
          else (
            let r39 := (zt_jump u27 1 11 8).1
            let u38 := (zt_jump u27 1 11 8).2
            (r39, u38)))
        else (
          if (ztg_top u) = 0 then (
            let r34 := (zt_jump u27 1 11 8).1
            let u33 := (zt_jump u27 1 11 8).2
            (r34, u33))
          else (
            let r32 := (zt_jump u27 0 11 8).1
            let u31 := (zt_jump u27 0 11 8).2
            (r32, u31)))))
    else (
      let u3 := zts_sp u ((ztg_sp u) - 1)
      let r5 := (zt_read u3 (ztg_sp u3)).1
      let u4 := (zt_read u3 (ztg_sp u3)).2
      let u6 := zts_top u4 r5
      if a1 = 159 then (
        if (ztg_top u) = 0 then (
          let r23 := (zt_jump u6 1 13 10).1
          let u22 := (zt_jump u6 1 13 10).2
          (r23, u22))
        else (
          let r21 := (zt_jump u6 0 13 10).1
          let u20 := (zt_jump u6 0 13 10).2
          (r21, u20)))
      else (
        if a1 = 155 then (
          if 0 ≤ (ztg_top u) then (
            let r16 := (zt_jump u6 0 11 8).1
            let u15 := (zt_jump u6 0 11 8).2
            (r16, u15))
          else (
            let r18 := (zt_jump u6 1 11 8).1
            let u17 := (zt_jump u6 1 11 8).2
            (r18, u17)))
        else (
          if (ztg_top u) = 0 then (
            let r13 := (zt_jump u6 1 11 8).1
            let u12 := (zt_jump u6 1 11 8).2
            (r13, u12))
          else (
            let r11 := (zt_jump u6 0 11 8).1
            let u10 := (zt_jump u6 0 11 8).2
            (r11, u10))))))
set_option maxHeartbeats 4000000 in
set_option maxRecDepth 100000 in
theorem ztM_ifs (l : Launch) (k : Ztk) (Dk : ZtD k) (u : Zts) (a1 : Int32) : Met l yX1_ifs (.code yX1_ifs cX1_ifs 4 (some .int) :: zwT) (zrm 3) (ZtB k [.ref (zta_this k), .int a1] u) (ZtQ k (some (.int (zt_ifs u a1).1)) (zt_ifs u a1).2) 0 0 (ZtA k) := by
  refine ztE_in (by decide) rfl (Nat.le_of_ble_eq_true rfl) Dk ?_
  intro p e s m below meth c ls C hr hlk hP hl
  have hx := C.1.1
  have hb := C.1.2.1
  have hl : lv_has ls 4 [(0, .ref (zta_this k)), (1, .int a1)] := hl
  have hS : va_S (ZtA k) s.heap s.heap [] := va_S.rf
  refine lv_aload_n hx hb dX1_ifs_0 rfl (lv_at hl 0 rfl) ?_
  refine ztG_top C hP dX1_ifs_1 ?_
  refine lv_istore_n (lv' := [(2, .int (ztg_top u)), (0, .ref (zta_this k)), (1, .int a1)]) hx hb dX1_ifs_4 rfl hl (by decide) rfl (fun ls hl => ?_)
  refine lv_iload_n hx hb dX1_ifs_5 rfl (lv_at hl 2 rfl) ?_
  refine lv_sipush (v := 159) hx hb dX1_ifs_6 (by decide) ?_
  refine lv_icmp_ne (tgt := 25) hx hb dX1_ifs_9 (by decide) (fun c1 => ?_) (fun c1 => ?_)
  · refine lv_iconst (v := 0) hx hb dX1_ifs_25 (by decide) ?_
    refine lv_istore_n (lv' := [(3, .int 0), (2, .int (ztg_top u)), (0, .ref (zta_this k)), (1, .int a1)]) hx hb dX1_ifs_26 rfl hl (by decide) rfl (fun ls hl => ?_)
    refine lv_aload_n hx hb dX1_ifs_27 rfl (lv_at hl 2 rfl) ?_
    refine lv_dup hx hb dX1_ifs_28 rfl ?_
    refine ztG_sp C hP dX1_ifs_29 ?_
    refine lv_iload_n hx hb dX1_ifs_32 rfl (lv_at hl 3 rfl) ?_
    refine lv_sipush (v := 159) hx hb dX1_ifs_33 (by decide) ?_
    refine lv_icmp_ne (tgt := 43) hx hb dX1_ifs_36 (by decide) (fun c2 => ?_) (fun c2 => ?_)
    · refine lv_iconst (v := 1) hx hb dX1_ifs_43 (by decide) ?_
      refine lv_isub hx hb dX1_ifs_44 ?_
      refine ztP_sp C hP hS dX1_ifs_45 (fun u3 H locs hu3 hP hS => ?_)
      refine lv_aload_n hx hb dX1_ifs_48 rfl (lv_at hl 2 rfl) ?_
      refine lv_aload_n hx hb dX1_ifs_49 rfl (lv_at hl 2 rfl) ?_
      refine lv_aload_n hx hb dX1_ifs_50 rfl (lv_at hl 2 rfl) ?_
      refine ztG_sp C hP dX1_ifs_51 ?_
      refine ztK_read C hP hS hl.1 (by decide) (Nat.le_of_ble_eq_true rfl) dX1_ifs_54 (fun r5 u4 H locs hr5 hu4 hP hS => ?_)
      refine ztP_top C hP hS dX1_ifs_57 (fun u6 H locs hu6 hP hS => ?_)
      refine lv_iload_n hx hb dX1_ifs_60 rfl (lv_at hl 3 rfl) ?_
      refine lv_sipush (v := 159) hx hb dX1_ifs_61 (by decide) ?_
      refine lv_icmp_ne (tgt := 86) hx hb dX1_ifs_64 (by decide) (fun c7 => ?_) (fun c7 => ?_)
      · refine lv_aload_n hx hb dX1_ifs_86 rfl (lv_at hl 2 rfl) ?_
        refine lv_iload_n hx hb dX1_ifs_87 rfl (lv_at hl 3 rfl) ?_
        refine lv_sipush (v := 155) hx hb dX1_ifs_88 (by decide) ?_
        refine lv_icmp_ne (tgt := 106) hx hb dX1_ifs_91 (by decide) (fun c8 => ?_) (fun c8 => ?_)
        · refine lv_iload_n hx hb dX1_ifs_106 rfl (lv_at hl 1 rfl) ?_
          refine lv_if_ne (tgt := 114) hx hb dX1_ifs_107 (by decide) (fun c9 => ?_) (fun c9 => ?_)
          · refine lv_iconst (v := 0) hx hb dX1_ifs_114 (by decide) ?_
            refine lv_bipush (v := 11) hx hb dX1_ifs_115 (by decide) ?_
            refine lv_bipush (v := 8) hx hb dX1_ifs_117 (by decide) ?_
            refine ztK_jump C hP hS hl.1 (by decide) (Nat.le_of_ble_eq_true rfl) dX1_ifs_119 (fun r11 u10 H locs hr11 hu10 hP hS => ?_)
            exact zt_iret C hr hlk hP hS (by subst hu3 hr5 hu4 hu6 hr11 hu10; exact (if_neg c1).trans ((if_neg c2).trans ((if_neg c7).trans ((if_neg c8).trans ((if_neg c9).trans (rfl)))))) dX1_ifs_122
          · refine lv_iconst (v := 1) hx hb dX1_ifs_110 (by decide) ?_
            refine lv_goto (tgt := 115) hx hb dX1_ifs_111 (by decide) ?_
            refine lv_bipush (v := 11) hx hb dX1_ifs_115 (by decide) ?_
            refine lv_bipush (v := 8) hx hb dX1_ifs_117 (by decide) ?_
            refine ztK_jump C hP hS hl.1 (by decide) (Nat.le_of_ble_eq_true rfl) dX1_ifs_119 (fun r13 u12 H locs hr13 hu12 hP hS => ?_)
            exact zt_iret C hr hlk hP hS (by subst hu3 hr5 hu4 hu6 hr13 hu12; exact (if_neg c1).trans ((if_neg c2).trans ((if_neg c7).trans ((if_neg c8).trans ((if_pos c9).trans (rfl)))))) dX1_ifs_122
        · refine lv_iload_n hx hb dX1_ifs_94 rfl (lv_at hl 1 rfl) ?_
          refine lv_if_ge (tgt := 102) hx hb dX1_ifs_95 (by decide) (fun c14 => ?_) (fun c14 => ?_)
          · refine lv_iconst (v := 0) hx hb dX1_ifs_102 (by decide) ?_
            refine lv_goto (tgt := 115) hx hb dX1_ifs_103 (by decide) ?_
            refine lv_bipush (v := 11) hx hb dX1_ifs_115 (by decide) ?_
            refine lv_bipush (v := 8) hx hb dX1_ifs_117 (by decide) ?_
            refine ztK_jump C hP hS hl.1 (by decide) (Nat.le_of_ble_eq_true rfl) dX1_ifs_119 (fun r16 u15 H locs hr16 hu15 hP hS => ?_)
            exact zt_iret C hr hlk hP hS (by subst hu3 hr5 hu4 hu6 hr16 hu15; exact (if_neg c1).trans ((if_neg c2).trans ((if_neg c7).trans ((if_pos c8).trans ((if_pos c14).trans (rfl)))))) dX1_ifs_122
          · refine lv_iconst (v := 1) hx hb dX1_ifs_98 (by decide) ?_
            refine lv_goto (tgt := 115) hx hb dX1_ifs_99 (by decide) ?_
            refine lv_bipush (v := 11) hx hb dX1_ifs_115 (by decide) ?_
            refine lv_bipush (v := 8) hx hb dX1_ifs_117 (by decide) ?_
            refine ztK_jump C hP hS hl.1 (by decide) (Nat.le_of_ble_eq_true rfl) dX1_ifs_119 (fun r18 u17 H locs hr18 hu17 hP hS => ?_)
            exact zt_iret C hr hlk hP hS (by subst hu3 hr5 hu4 hu6 hr18 hu17; exact (if_neg c1).trans ((if_neg c2).trans ((if_neg c7).trans ((if_pos c8).trans ((if_neg c14).trans (rfl)))))) dX1_ifs_122
      · refine lv_aload_n hx hb dX1_ifs_67 rfl (lv_at hl 2 rfl) ?_
        refine lv_iload_n hx hb dX1_ifs_68 rfl (lv_at hl 1 rfl) ?_
        refine lv_iload_n hx hb dX1_ifs_69 rfl (lv_at hl 0 rfl) ?_
        refine lv_icmp_ne (tgt := 77) hx hb dX1_ifs_70 (by decide) (fun c19 => ?_) (fun c19 => ?_)
        · refine lv_iconst (v := 0) hx hb dX1_ifs_77 (by decide) ?_
          refine lv_bipush (v := 13) hx hb dX1_ifs_78 (by decide) ?_
          refine lv_bipush (v := 10) hx hb dX1_ifs_80 (by decide) ?_
          refine ztK_jump C hP hS hl.1 (by decide) (Nat.le_of_ble_eq_true rfl) dX1_ifs_82 (fun r21 u20 H locs hr21 hu20 hP hS => ?_)
          exact zt_iret C hr hlk hP hS (by subst hu3 hr5 hu4 hu6 hr21 hu20; exact (if_neg c1).trans ((if_neg c2).trans ((if_pos c7).trans ((if_neg c19).trans (rfl))))) dX1_ifs_85
        · refine lv_iconst (v := 1) hx hb dX1_ifs_73 (by decide) ?_
          refine lv_goto (tgt := 78) hx hb dX1_ifs_74 (by decide) ?_
          refine lv_bipush (v := 13) hx hb dX1_ifs_78 (by decide) ?_
          refine lv_bipush (v := 10) hx hb dX1_ifs_80 (by decide) ?_
          refine ztK_jump C hP hS hl.1 (by decide) (Nat.le_of_ble_eq_true rfl) dX1_ifs_82 (fun r23 u22 H locs hr23 hu22 hP hS => ?_)
          exact zt_iret C hr hlk hP hS (by subst hu3 hr5 hu4 hu6 hr23 hu22; exact (if_neg c1).trans ((if_neg c2).trans ((if_pos c7).trans ((if_pos c19).trans (rfl))))) dX1_ifs_85
    · refine lv_iconst (v := 2) hx hb dX1_ifs_39 (by decide) ?_
      refine lv_goto (tgt := 44) hx hb dX1_ifs_40 (by decide) ?_
      refine lv_isub hx hb dX1_ifs_44 ?_
      refine ztP_sp C hP hS dX1_ifs_45 (fun u24 H locs hu24 hP hS => ?_)
      refine lv_aload_n hx hb dX1_ifs_48 rfl (lv_at hl 2 rfl) ?_
      refine lv_aload_n hx hb dX1_ifs_49 rfl (lv_at hl 2 rfl) ?_
      refine lv_aload_n hx hb dX1_ifs_50 rfl (lv_at hl 2 rfl) ?_
      refine ztG_sp C hP dX1_ifs_51 ?_
      refine ztK_read C hP hS hl.1 (by decide) (Nat.le_of_ble_eq_true rfl) dX1_ifs_54 (fun r26 u25 H locs hr26 hu25 hP hS => ?_)
      refine ztP_top C hP hS dX1_ifs_57 (fun u27 H locs hu27 hP hS => ?_)
      refine lv_iload_n hx hb dX1_ifs_60 rfl (lv_at hl 3 rfl) ?_
      refine lv_sipush (v := 159) hx hb dX1_ifs_61 (by decide) ?_
      refine lv_icmp_ne (tgt := 86) hx hb dX1_ifs_64 (by decide) (fun c28 => ?_) (fun c28 => ?_)
      · refine lv_aload_n hx hb dX1_ifs_86 rfl (lv_at hl 2 rfl) ?_
        refine lv_iload_n hx hb dX1_ifs_87 rfl (lv_at hl 3 rfl) ?_
        refine lv_sipush (v := 155) hx hb dX1_ifs_88 (by decide) ?_
        refine lv_icmp_ne (tgt := 106) hx hb dX1_ifs_91 (by decide) (fun c29 => ?_) (fun c29 => ?_)
        · refine lv_iload_n hx hb dX1_ifs_106 rfl (lv_at hl 1 rfl) ?_
          refine lv_if_ne (tgt := 114) hx hb dX1_ifs_107 (by decide) (fun c30 => ?_) (fun c30 => ?_)
          · refine lv_iconst (v := 0) hx hb dX1_ifs_114 (by decide) ?_
            refine lv_bipush (v := 11) hx hb dX1_ifs_115 (by decide) ?_
            refine lv_bipush (v := 8) hx hb dX1_ifs_117 (by decide) ?_
            refine ztK_jump C hP hS hl.1 (by decide) (Nat.le_of_ble_eq_true rfl) dX1_ifs_119 (fun r32 u31 H locs hr32 hu31 hP hS => ?_)
            exact zt_iret C hr hlk hP hS (by subst hu24 hr26 hu25 hu27 hr32 hu31; exact (if_neg c1).trans ((if_pos c2).trans ((if_neg c28).trans ((if_neg c29).trans ((if_neg c30).trans (rfl)))))) dX1_ifs_122
          · refine lv_iconst (v := 1) hx hb dX1_ifs_110 (by decide) ?_
            refine lv_goto (tgt := 115) hx hb dX1_ifs_111 (by decide) ?_
            refine lv_bipush (v := 11) hx hb dX1_ifs_115 (by decide) ?_
            refine lv_bipush (v := 8) hx hb dX1_ifs_117 (by decide) ?_
            refine ztK_jump C hP hS hl.1 (by decide) (Nat.le_of_ble_eq_true rfl) dX1_ifs_119 (fun r34 u33 H locs hr34 hu33 hP hS => ?_)
            exact zt_iret C hr hlk hP hS (by subst hu24 hr26 hu25 hu27 hr34 hu33; exact (if_neg c1).trans ((if_pos c2).trans ((if_neg c28).trans ((if_neg c29).trans ((if_pos c30).trans (rfl)))))) dX1_ifs_122
        · refine lv_iload_n hx hb dX1_ifs_94 rfl (lv_at hl 1 rfl) ?_
          refine lv_if_ge (tgt := 102) hx hb dX1_ifs_95 (by decide) (fun c35 => ?_) (fun c35 => ?_)
          · refine lv_iconst (v := 0) hx hb dX1_ifs_102 (by decide) ?_
            refine lv_goto (tgt := 115) hx hb dX1_ifs_103 (by decide) ?_
            refine lv_bipush (v := 11) hx hb dX1_ifs_115 (by decide) ?_
            refine lv_bipush (v := 8) hx hb dX1_ifs_117 (by decide) ?_
            refine ztK_jump C hP hS hl.1 (by decide) (Nat.le_of_ble_eq_true rfl) dX1_ifs_119 (fun r37 u36 H locs hr37 hu36 hP hS => ?_)
            exact zt_iret C hr hlk hP hS (by subst hu24 hr26 hu25 hu27 hr37 hu36; exact (if_neg c1).trans ((if_pos c2).trans ((if_neg c28).trans ((if_pos c29).trans ((if_pos c35).trans (rfl)))))) dX1_ifs_122
          · refine lv_iconst (v := 1) hx hb dX1_ifs_98 (by decide) ?_
            refine lv_goto (tgt := 115) hx hb dX1_ifs_99 (by decide) ?_
            refine lv_bipush (v := 11) hx hb dX1_ifs_115 (by decide) ?_
            refine lv_bipush (v := 8) hx hb dX1_ifs_117 (by decide) ?_
            refine ztK_jump C hP hS hl.1 (by decide) (Nat.le_of_ble_eq_true rfl) dX1_ifs_119 (fun r39 u38 H locs hr39 hu38 hP hS => ?_)
            exact zt_iret C hr hlk hP hS (by subst hu24 hr26 hu25 hu27 hr39 hu38; exact (if_neg c1).trans ((if_pos c2).trans ((if_neg c28).trans ((if_pos c29).trans ((if_neg c35).trans (rfl)))))) dX1_ifs_122
      · refine lv_aload_n hx hb dX1_ifs_67 rfl (lv_at hl 2 rfl) ?_
        refine lv_iload_n hx hb dX1_ifs_68 rfl (lv_at hl 1 rfl) ?_
        refine lv_iload_n hx hb dX1_ifs_69 rfl (lv_at hl 0 rfl) ?_
        refine lv_icmp_ne (tgt := 77) hx hb dX1_ifs_70 (by decide) (fun c40 => ?_) (fun c40 => ?_)
        · refine lv_iconst (v := 0) hx hb dX1_ifs_77 (by decide) ?_
          refine lv_bipush (v := 13) hx hb dX1_ifs_78 (by decide) ?_
          refine lv_bipush (v := 10) hx hb dX1_ifs_80 (by decide) ?_
          refine ztK_jump C hP hS hl.1 (by decide) (Nat.le_of_ble_eq_true rfl) dX1_ifs_82 (fun r42 u41 H locs hr42 hu41 hP hS => ?_)
          exact zt_iret C hr hlk hP hS (by subst hu24 hr26 hu25 hu27 hr42 hu41; exact (if_neg c1).trans ((if_pos c2).trans ((if_pos c28).trans ((if_neg c40).trans (rfl))))) dX1_ifs_85
        · refine lv_iconst (v := 1) hx hb dX1_ifs_73 (by decide) ?_
          refine lv_goto (tgt := 78) hx hb dX1_ifs_74 (by decide) ?_
          refine lv_bipush (v := 13) hx hb dX1_ifs_78 (by decide) ?_
          refine lv_bipush (v := 10) hx hb dX1_ifs_80 (by decide) ?_
          refine ztK_jump C hP hS hl.1 (by decide) (Nat.le_of_ble_eq_true rfl) dX1_ifs_82 (fun r44 u43 H locs hr44 hu43 hP hS => ?_)
          exact zt_iret C hr hlk hP hS (by subst hu24 hr26 hu25 hu27 hr44 hu43; exact (if_neg c1).trans ((if_pos c2).trans ((if_pos c28).trans ((if_pos c40).trans (rfl))))) dX1_ifs_85
  · refine lv_aload_n hx hb dX1_ifs_12 rfl (lv_at hl 1 rfl) ?_
    refine lv_aload_n hx hb dX1_ifs_13 rfl (lv_at hl 1 rfl) ?_
    refine ztG_sp C hP dX1_ifs_14 ?_
    refine lv_iconst (v := 1) hx hb dX1_ifs_17 (by decide) ?_
    refine lv_isub hx hb dX1_ifs_18 ?_
    refine ztK_read C hP hS hl.1 (by decide) (Nat.le_of_ble_eq_true rfl) dX1_ifs_19 (fun r46 u45 H locs hr46 hu45 hP hS => ?_)
    refine lv_goto (tgt := 26) hx hb dX1_ifs_22 (by decide) ?_
    refine lv_istore_n (lv' := [(3, .int r46), (2, .int (ztg_top u)), (0, .ref (zta_this k)), (1, .int a1)]) hx hb dX1_ifs_26 rfl hl (by decide) rfl (fun ls hl => ?_)
    refine lv_aload_n hx hb dX1_ifs_27 rfl (lv_at hl 2 rfl) ?_
    refine lv_dup hx hb dX1_ifs_28 rfl ?_
    refine ztG_sp C hP dX1_ifs_29 ?_
    refine lv_iload_n hx hb dX1_ifs_32 rfl (lv_at hl 3 rfl) ?_
    refine lv_sipush (v := 159) hx hb dX1_ifs_33 (by decide) ?_
    refine lv_icmp_ne (tgt := 43) hx hb dX1_ifs_36 (by decide) (fun c47 => ?_) (fun c47 => ?_)
    · refine lv_iconst (v := 1) hx hb dX1_ifs_43 (by decide) ?_
      refine lv_isub hx hb dX1_ifs_44 ?_
      refine ztP_sp C hP hS dX1_ifs_45 (fun u48 H locs hu48 hP hS => ?_)
      refine lv_aload_n hx hb dX1_ifs_48 rfl (lv_at hl 2 rfl) ?_
      refine lv_aload_n hx hb dX1_ifs_49 rfl (lv_at hl 2 rfl) ?_
      refine lv_aload_n hx hb dX1_ifs_50 rfl (lv_at hl 2 rfl) ?_
      refine ztG_sp C hP dX1_ifs_51 ?_
      refine ztK_read C hP hS hl.1 (by decide) (Nat.le_of_ble_eq_true rfl) dX1_ifs_54 (fun r50 u49 H locs hr50 hu49 hP hS => ?_)
      refine ztP_top C hP hS dX1_ifs_57 (fun u51 H locs hu51 hP hS => ?_)
      refine lv_iload_n hx hb dX1_ifs_60 rfl (lv_at hl 3 rfl) ?_
      refine lv_sipush (v := 159) hx hb dX1_ifs_61 (by decide) ?_
      refine lv_icmp_ne (tgt := 86) hx hb dX1_ifs_64 (by decide) (fun c52 => ?_) (fun c52 => ?_)
      · refine lv_aload_n hx hb dX1_ifs_86 rfl (lv_at hl 2 rfl) ?_
        refine lv_iload_n hx hb dX1_ifs_87 rfl (lv_at hl 3 rfl) ?_
        refine lv_sipush (v := 155) hx hb dX1_ifs_88 (by decide) ?_
        refine lv_icmp_ne (tgt := 106) hx hb dX1_ifs_91 (by decide) (fun c53 => ?_) (fun c53 => ?_)
        · refine lv_iload_n hx hb dX1_ifs_106 rfl (lv_at hl 1 rfl) ?_
          refine lv_if_ne (tgt := 114) hx hb dX1_ifs_107 (by decide) (fun c54 => ?_) (fun c54 => ?_)
          · refine lv_iconst (v := 0) hx hb dX1_ifs_114 (by decide) ?_
            refine lv_bipush (v := 11) hx hb dX1_ifs_115 (by decide) ?_
            refine lv_bipush (v := 8) hx hb dX1_ifs_117 (by decide) ?_
            refine ztK_jump C hP hS hl.1 (by decide) (Nat.le_of_ble_eq_true rfl) dX1_ifs_119 (fun r56 u55 H locs hr56 hu55 hP hS => ?_)
            exact zt_iret C hr hlk hP hS (by subst hr46 hu45 hu48 hr50 hu49 hu51 hr56 hu55; exact (if_pos c1).trans ((if_neg c47).trans ((if_neg c52).trans ((if_neg c53).trans ((if_neg c54).trans (rfl)))))) dX1_ifs_122
          · refine lv_iconst (v := 1) hx hb dX1_ifs_110 (by decide) ?_
            refine lv_goto (tgt := 115) hx hb dX1_ifs_111 (by decide) ?_
            refine lv_bipush (v := 11) hx hb dX1_ifs_115 (by decide) ?_
            refine lv_bipush (v := 8) hx hb dX1_ifs_117 (by decide) ?_
            refine ztK_jump C hP hS hl.1 (by decide) (Nat.le_of_ble_eq_true rfl) dX1_ifs_119 (fun r58 u57 H locs hr58 hu57 hP hS => ?_)
            exact zt_iret C hr hlk hP hS (by subst hr46 hu45 hu48 hr50 hu49 hu51 hr58 hu57; exact (if_pos c1).trans ((if_neg c47).trans ((if_neg c52).trans ((if_neg c53).trans ((if_pos c54).trans (rfl)))))) dX1_ifs_122
        · refine lv_iload_n hx hb dX1_ifs_94 rfl (lv_at hl 1 rfl) ?_
          refine lv_if_ge (tgt := 102) hx hb dX1_ifs_95 (by decide) (fun c59 => ?_) (fun c59 => ?_)
          · refine lv_iconst (v := 0) hx hb dX1_ifs_102 (by decide) ?_
            refine lv_goto (tgt := 115) hx hb dX1_ifs_103 (by decide) ?_
            refine lv_bipush (v := 11) hx hb dX1_ifs_115 (by decide) ?_
            refine lv_bipush (v := 8) hx hb dX1_ifs_117 (by decide) ?_
            refine ztK_jump C hP hS hl.1 (by decide) (Nat.le_of_ble_eq_true rfl) dX1_ifs_119 (fun r61 u60 H locs hr61 hu60 hP hS => ?_)
            exact zt_iret C hr hlk hP hS (by subst hr46 hu45 hu48 hr50 hu49 hu51 hr61 hu60; exact (if_pos c1).trans ((if_neg c47).trans ((if_neg c52).trans ((if_pos c53).trans ((if_pos c59).trans (rfl)))))) dX1_ifs_122
          · refine lv_iconst (v := 1) hx hb dX1_ifs_98 (by decide) ?_
            refine lv_goto (tgt := 115) hx hb dX1_ifs_99 (by decide) ?_
            refine lv_bipush (v := 11) hx hb dX1_ifs_115 (by decide) ?_
            refine lv_bipush (v := 8) hx hb dX1_ifs_117 (by decide) ?_
            refine ztK_jump C hP hS hl.1 (by decide) (Nat.le_of_ble_eq_true rfl) dX1_ifs_119 (fun r63 u62 H locs hr63 hu62 hP hS => ?_)
            exact zt_iret C hr hlk hP hS (by subst hr46 hu45 hu48 hr50 hu49 hu51 hr63 hu62; exact (if_pos c1).trans ((if_neg c47).trans ((if_neg c52).trans ((if_pos c53).trans ((if_neg c59).trans (rfl)))))) dX1_ifs_122
      · refine lv_aload_n hx hb dX1_ifs_67 rfl (lv_at hl 2 rfl) ?_
        refine lv_iload_n hx hb dX1_ifs_68 rfl (lv_at hl 1 rfl) ?_
        refine lv_iload_n hx hb dX1_ifs_69 rfl (lv_at hl 0 rfl) ?_
        refine lv_icmp_ne (tgt := 77) hx hb dX1_ifs_70 (by decide) (fun c64 => ?_) (fun c64 => ?_)
        · refine lv_iconst (v := 0) hx hb dX1_ifs_77 (by decide) ?_
          refine lv_bipush (v := 13) hx hb dX1_ifs_78 (by decide) ?_
          refine lv_bipush (v := 10) hx hb dX1_ifs_80 (by decide) ?_
          refine ztK_jump C hP hS hl.1 (by decide) (Nat.le_of_ble_eq_true rfl) dX1_ifs_82 (fun r66 u65 H locs hr66 hu65 hP hS => ?_)
          exact zt_iret C hr hlk hP hS (by subst hr46 hu45 hu48 hr50 hu49 hu51 hr66 hu65; exact (if_pos c1).trans ((if_neg c47).trans ((if_pos c52).trans ((if_neg c64).trans (rfl))))) dX1_ifs_85
        · refine lv_iconst (v := 1) hx hb dX1_ifs_73 (by decide) ?_
          refine lv_goto (tgt := 78) hx hb dX1_ifs_74 (by decide) ?_
          refine lv_bipush (v := 13) hx hb dX1_ifs_78 (by decide) ?_
          refine lv_bipush (v := 10) hx hb dX1_ifs_80 (by decide) ?_
          refine ztK_jump C hP hS hl.1 (by decide) (Nat.le_of_ble_eq_true rfl) dX1_ifs_82 (fun r68 u67 H locs hr68 hu67 hP hS => ?_)
          exact zt_iret C hr hlk hP hS (by subst hr46 hu45 hu48 hr50 hu49 hu51 hr68 hu67; exact (if_pos c1).trans ((if_neg c47).trans ((if_pos c52).trans ((if_pos c64).trans (rfl))))) dX1_ifs_85
    · refine lv_iconst (v := 2) hx hb dX1_ifs_39 (by decide) ?_
      refine lv_goto (tgt := 44) hx hb dX1_ifs_40 (by decide) ?_
      refine lv_isub hx hb dX1_ifs_44 ?_
      refine ztP_sp C hP hS dX1_ifs_45 (fun u69 H locs hu69 hP hS => ?_)
      refine lv_aload_n hx hb dX1_ifs_48 rfl (lv_at hl 2 rfl) ?_
      refine lv_aload_n hx hb dX1_ifs_49 rfl (lv_at hl 2 rfl) ?_
      refine lv_aload_n hx hb dX1_ifs_50 rfl (lv_at hl 2 rfl) ?_
      refine ztG_sp C hP dX1_ifs_51 ?_
      refine ztK_read C hP hS hl.1 (by decide) (Nat.le_of_ble_eq_true rfl) dX1_ifs_54 (fun r71 u70 H locs hr71 hu70 hP hS => ?_)
      refine ztP_top C hP hS dX1_ifs_57 (fun u72 H locs hu72 hP hS => ?_)
      refine lv_iload_n hx hb dX1_ifs_60 rfl (lv_at hl 3 rfl) ?_
      refine lv_sipush (v := 159) hx hb dX1_ifs_61 (by decide) ?_
      refine lv_icmp_ne (tgt := 86) hx hb dX1_ifs_64 (by decide) (fun c73 => ?_) (fun c73 => ?_)
      · refine lv_aload_n hx hb dX1_ifs_86 rfl (lv_at hl 2 rfl) ?_
        refine lv_iload_n hx hb dX1_ifs_87 rfl (lv_at hl 3 rfl) ?_
        refine lv_sipush (v := 155) hx hb dX1_ifs_88 (by decide) ?_
        refine lv_icmp_ne (tgt := 106) hx hb dX1_ifs_91 (by decide) (fun c74 => ?_) (fun c74 => ?_)
        · refine lv_iload_n hx hb dX1_ifs_106 rfl (lv_at hl 1 rfl) ?_
          refine lv_if_ne (tgt := 114) hx hb dX1_ifs_107 (by decide) (fun c75 => ?_) (fun c75 => ?_)
          · refine lv_iconst (v := 0) hx hb dX1_ifs_114 (by decide) ?_
            refine lv_bipush (v := 11) hx hb dX1_ifs_115 (by decide) ?_
            refine lv_bipush (v := 8) hx hb dX1_ifs_117 (by decide) ?_
            refine ztK_jump C hP hS hl.1 (by decide) (Nat.le_of_ble_eq_true rfl) dX1_ifs_119 (fun r77 u76 H locs hr77 hu76 hP hS => ?_)
            exact zt_iret C hr hlk hP hS (by subst hr46 hu45 hu69 hr71 hu70 hu72 hr77 hu76; exact (if_pos c1).trans ((if_pos c47).trans ((if_neg c73).trans ((if_neg c74).trans ((if_neg c75).trans (rfl)))))) dX1_ifs_122
          · refine lv_iconst (v := 1) hx hb dX1_ifs_110 (by decide) ?_
            refine lv_goto (tgt := 115) hx hb dX1_ifs_111 (by decide) ?_
            refine lv_bipush (v := 11) hx hb dX1_ifs_115 (by decide) ?_
            refine lv_bipush (v := 8) hx hb dX1_ifs_117 (by decide) ?_
            refine ztK_jump C hP hS hl.1 (by decide) (Nat.le_of_ble_eq_true rfl) dX1_ifs_119 (fun r79 u78 H locs hr79 hu78 hP hS => ?_)
            exact zt_iret C hr hlk hP hS (by subst hr46 hu45 hu69 hr71 hu70 hu72 hr79 hu78; exact (if_pos c1).trans ((if_pos c47).trans ((if_neg c73).trans ((if_neg c74).trans ((if_pos c75).trans (rfl)))))) dX1_ifs_122
        · refine lv_iload_n hx hb dX1_ifs_94 rfl (lv_at hl 1 rfl) ?_
          refine lv_if_ge (tgt := 102) hx hb dX1_ifs_95 (by decide) (fun c80 => ?_) (fun c80 => ?_)
          · refine lv_iconst (v := 0) hx hb dX1_ifs_102 (by decide) ?_
            refine lv_goto (tgt := 115) hx hb dX1_ifs_103 (by decide) ?_
            refine lv_bipush (v := 11) hx hb dX1_ifs_115 (by decide) ?_
            refine lv_bipush (v := 8) hx hb dX1_ifs_117 (by decide) ?_
            refine ztK_jump C hP hS hl.1 (by decide) (Nat.le_of_ble_eq_true rfl) dX1_ifs_119 (fun r82 u81 H locs hr82 hu81 hP hS => ?_)
            exact zt_iret C hr hlk hP hS (by subst hr46 hu45 hu69 hr71 hu70 hu72 hr82 hu81; exact (if_pos c1).trans ((if_pos c47).trans ((if_neg c73).trans ((if_pos c74).trans ((if_pos c80).trans (rfl)))))) dX1_ifs_122
          · refine lv_iconst (v := 1) hx hb dX1_ifs_98 (by decide) ?_
            refine lv_goto (tgt := 115) hx hb dX1_ifs_99 (by decide) ?_
            refine lv_bipush (v := 11) hx hb dX1_ifs_115 (by decide) ?_
            refine lv_bipush (v := 8) hx hb dX1_ifs_117 (by decide) ?_
            refine ztK_jump C hP hS hl.1 (by decide) (Nat.le_of_ble_eq_true rfl) dX1_ifs_119 (fun r84 u83 H locs hr84 hu83 hP hS => ?_)
            exact zt_iret C hr hlk hP hS (by subst hr46 hu45 hu69 hr71 hu70 hu72 hr84 hu83; exact (if_pos c1).trans ((if_pos c47).trans ((if_neg c73).trans ((if_pos c74).trans ((if_neg c80).trans (rfl)))))) dX1_ifs_122
      · refine lv_aload_n hx hb dX1_ifs_67 rfl (lv_at hl 2 rfl) ?_
        refine lv_iload_n hx hb dX1_ifs_68 rfl (lv_at hl 1 rfl) ?_
        refine lv_iload_n hx hb dX1_ifs_69 rfl (lv_at hl 0 rfl) ?_
        refine lv_icmp_ne (tgt := 77) hx hb dX1_ifs_70 (by decide) (fun c85 => ?_) (fun c85 => ?_)
        · refine lv_iconst (v := 0) hx hb dX1_ifs_77 (by decide) ?_
          refine lv_bipush (v := 13) hx hb dX1_ifs_78 (by decide) ?_
          refine lv_bipush (v := 10) hx hb dX1_ifs_80 (by decide) ?_
          refine ztK_jump C hP hS hl.1 (by decide) (Nat.le_of_ble_eq_true rfl) dX1_ifs_82 (fun r87 u86 H locs hr87 hu86 hP hS => ?_)
          exact zt_iret C hr hlk hP hS (by subst hr46 hu45 hu69 hr71 hu70 hu72 hr87 hu86; exact (if_pos c1).trans ((if_pos c47).trans ((if_pos c73).trans ((if_neg c85).trans (rfl))))) dX1_ifs_85
        · refine lv_iconst (v := 1) hx hb dX1_ifs_73 (by decide) ?_
          refine lv_goto (tgt := 78) hx hb dX1_ifs_74 (by decide) ?_
          refine lv_bipush (v := 13) hx hb dX1_ifs_78 (by decide) ?_
          refine lv_bipush (v := 10) hx hb dX1_ifs_80 (by decide) ?_
          refine ztK_jump C hP hS hl.1 (by decide) (Nat.le_of_ble_eq_true rfl) dX1_ifs_82 (fun r89 u88 H locs hr89 hu88 hP hS => ?_)
          exact zt_iret C hr hlk hP hS (by subst hr46 hu45 hu69 hr71 hu70 hu72 hr89 hu88; exact (if_pos c1).trans ((if_pos c47).trans ((if_pos c73).trans ((if_pos c85).trans (rfl))))) dX1_ifs_85
section
variable {p : Program} {l : Launch} {e : Env} {R : Room} {s : State} {m : MethodId} {args : Array Value} {below : List Frame} {meth : Method} {c : Code} {H : Heap} {locs : List Loc} {Q : State → Prop} {cc : ByteArray} {pc nL : Nat} {ls : Array Slot} {rest : List Value} {k : Ztk} {u : Zts} {H0 : Heap}
set_option maxHeartbeats 4000000 in
set_option maxRecDepth 100000 in
theorem ztK_ifs {a1 : Int32} (C : ZtC p s m args c cc nL k) (hP : ZtP k u H) (hS : va_S (ZtA k) H0 H locs) (hsz : ls.size = nL) (hR : 3 + 1 ≤ R.frames ∧ 8 + (4 + 11) + 40 * 3 ≤ R.locals) (hw : (rest.map fun v => v.category).sum ≤ 8) (hdg : decode cc pc = .ok (.invokevirtual 109, 3)) (kk : ∀ (r1 : Int32) (u1 : Zts) (H1 : Heap) (locs1 : List Loc), r1 = (zt_ifs u a1).1 → u1 = (zt_ifs u a1).2 → ZtP k u1 H1 → va_S (ZtA k) H0 H1 locs1 → W p l e R s m args below meth c H1 locs1 0 0 Q (F0 m (pc + 3) ls (.int r1 :: rest))) : W p l e R s m args below meth c H locs 0 0 Q (F0 m pc ls (.int a1 :: .ref (zta_this k) :: rest)) :=
  zt_callV (y := yX1_ifs) (n := 1) (As := [.int a1]) C (ztM_ifs l k C.2.2 u a1 ) zwT_c_ifs zwT_l_ifs zwT_i_ifs zwT_v_ifs rfl (by decide +kernel) hP hS hsz hR hw rfl hdg (fun H1 locs1 hP1 hS1 => kk _ _ H1 locs1 rfl rfl hP1 hS1)
end
theorem zt_G_ifs {w0 : Nat → Int32} {n : Nat} {u : Zts} (a1 : Int32) (h : ZtG w0 n u) : ZtG w0 (n + 0) (zt_ifs u a1).2 := by
  unfold zt_ifs
  dsimp only
  repeat' split
  all_goals first | exact zt_Gle (by omega) (zt_G_jump _ _ _ (zt_Gs_top _ (zt_G_read _ (zt_Gs_sp _ (h))))) | exact zt_Gle (by omega) (zt_G_jump _ _ _ (zt_Gs_top _ (zt_G_read _ (zt_Gs_sp _ (zt_G_read _ (h))))))
def zt_call (u : Zts) : Int32 × Zts :=
  let r2 := (zt_pair u ((ztg_pc u) + 1)).1
  let u1 := (zt_pair u ((ztg_pc u) + 1)).2
  let r4 := (zt_read u1 ((ztg_cpp u) + r2)).1
  let u3 := (zt_read u1 ((ztg_cpp u) + r2)).2
  let r6 := (zt_pair u3 r4).1
  let u5 := (zt_pair u3 r4).2
  let r8 := (zt_pair u5 (r4 + 2)).1
  let u7 := (zt_pair u5 (r4 + 2)).2
  let u9 := zt_write u7 (((ztg_sp u7) - r6) + 1) (((ztg_sp u7) + r8) + 1)
  let u10 := zt_write u9 (((ztg_sp u7) + r8) + 1) ((ztg_pc u9) + 3)
  let u11 := zts_sp u10 ((((ztg_sp u7) + r8) + 1) + 1)
  let u12 := zt_write u11 (ztg_sp u11) (ztg_lv u11)
  let u13 := zts_lv u12 (((ztg_sp u7) - r6) + 1)
  let u14 := zts_top u13 (((ztg_sp u7) - r6) + 1)
  let u15 := zts_next u14 (r4 + 4)
  (23, u15)
set_option maxHeartbeats 4000000 in
set_option maxRecDepth 100000 in
theorem ztM_call (l : Launch) (k : Ztk) (Dk : ZtD k) (u : Zts) {w0 : Nat → Int32} (hN : ZtG w0 4 u) : Met l yX1_call (.code yX1_call cX1_call 6 (some .int) :: zwT) (zrm 2) (ZtB k [.ref (zta_this k)] u) (ZtQ k (some (.int (zt_call u ).1)) (zt_call u ).2) 0 0 (ZtA k) := by
  refine ztE_in (by decide) rfl (Nat.le_of_ble_eq_true rfl) Dk ?_
  intro p e s m below meth c ls C hr hlk hP hl
  have hx := C.1.1
  have hb := C.1.2.1
  have hl : lv_has ls 6 [(0, .ref (zta_this k))] := hl
  have hS : va_S (ZtA k) s.heap s.heap [] := va_S.rf
  refine lv_aload_n hx hb dX1_call_0 rfl (lv_at hl 0 rfl) ?_
  refine lv_aload_n hx hb dX1_call_1 rfl (lv_at hl 0 rfl) ?_
  refine ztG_cpp C hP dX1_call_2 ?_
  refine lv_aload_n hx hb dX1_call_5 rfl (lv_at hl 0 rfl) ?_
  refine lv_aload_n hx hb dX1_call_6 rfl (lv_at hl 0 rfl) ?_
  refine ztG_pc C hP dX1_call_7 ?_
  refine lv_iconst (v := 1) hx hb dX1_call_10 (by decide) ?_
  refine lv_iadd hx hb dX1_call_11 ?_
  refine ztK_pair C hP hS hl.1 (by decide) (Nat.le_of_ble_eq_true rfl) dX1_call_12 (fun r2 u1 H locs hr2 hu1 hP hS => ?_)
  refine lv_iadd hx hb dX1_call_15 ?_
  refine ztK_read C hP hS hl.1 (by decide) (Nat.le_of_ble_eq_true rfl) dX1_call_16 (fun r4 u3 H locs hr4 hu3 hP hS => ?_)
  refine lv_istore_n (lv' := [(1, .int r4), (0, .ref (zta_this k))]) hx hb dX1_call_19 rfl hl (by decide) rfl (fun ls hl => ?_)
  refine lv_aload_n hx hb dX1_call_20 rfl (lv_at hl 1 rfl) ?_
  refine lv_iload_n hx hb dX1_call_21 rfl (lv_at hl 0 rfl) ?_
  refine ztK_pair C hP hS hl.1 (by decide) (Nat.le_of_ble_eq_true rfl) dX1_call_22 (fun r6 u5 H locs hr6 hu5 hP hS => ?_)
  refine lv_istore_n (lv' := [(2, .int r6), (1, .int r4), (0, .ref (zta_this k))]) hx hb dX1_call_25 rfl hl (by decide) rfl (fun ls hl => ?_)
  refine lv_aload_n hx hb dX1_call_26 rfl (lv_at hl 2 rfl) ?_
  refine lv_iload_n hx hb dX1_call_27 rfl (lv_at hl 1 rfl) ?_
  refine lv_iconst (v := 2) hx hb dX1_call_28 (by decide) ?_
  refine lv_iadd hx hb dX1_call_29 ?_
  refine ztK_pair C hP hS hl.1 (by decide) (Nat.le_of_ble_eq_true rfl) dX1_call_30 (fun r8 u7 H locs hr8 hu7 hP hS => ?_)
  refine lv_istore_n (lv' := [(3, .int r8), (2, .int r6), (1, .int r4), (0, .ref (zta_this k))]) hx hb dX1_call_33 rfl hl (by decide) rfl (fun ls hl => ?_)
  refine lv_aload_n hx hb dX1_call_34 rfl (lv_at hl 3 rfl) ?_
  refine ztG_sp C hP dX1_call_35 ?_
  refine lv_iload_n hx hb dX1_call_38 rfl (lv_at hl 1 rfl) ?_
  refine lv_isub hx hb dX1_call_39 ?_
  refine lv_iconst (v := 1) hx hb dX1_call_40 (by decide) ?_
  refine lv_iadd hx hb dX1_call_41 ?_
  refine lv_istore (lv' := [(4, .int (((ztg_sp u7) - r6) + 1)), (3, .int r8), (2, .int r6), (1, .int r4), (0, .ref (zta_this k))]) hx hb dX1_call_42 hl (by decide) rfl (fun ls hl => ?_)
  refine lv_aload_n hx hb dX1_call_44 rfl (lv_at hl 4 rfl) ?_
  refine ztG_sp C hP dX1_call_45 ?_
  refine lv_iload_n hx hb dX1_call_48 rfl (lv_at hl 1 rfl) ?_
  refine lv_iadd hx hb dX1_call_49 ?_
  refine lv_iconst (v := 1) hx hb dX1_call_50 (by decide) ?_
  refine lv_iadd hx hb dX1_call_51 ?_
  refine lv_istore (lv' := [(5, .int (((ztg_sp u7) + r8) + 1)), (4, .int (((ztg_sp u7) - r6) + 1)), (3, .int r8), (2, .int r6), (1, .int r4), (0, .ref (zta_this k))]) hx hb dX1_call_52 hl (by decide) rfl (fun ls hl => ?_)
  refine lv_aload_n hx hb dX1_call_54 rfl (lv_at hl 5 rfl) ?_
  refine lv_iload hx hb dX1_call_55 (lv_at hl 1 rfl) ?_
  refine lv_iload hx hb dX1_call_57 (lv_at hl 0 rfl) ?_
  refine ztK_write C hP hS hl.1 (by decide) (Nat.le_of_ble_eq_true rfl) (by subst hr2 hu1 hr4 hu3 hr6 hu5 hr8 hu7; exact zt_Gle (by decide) (zt_G_pair _ (zt_G_pair _ (zt_G_read _ (zt_G_pair _ (hN)))))) dX1_call_59 (fun u9 H locs hu9 hP hS => ?_)
  refine lv_aload_n hx hb dX1_call_62 rfl (lv_at hl 5 rfl) ?_
  refine lv_iload hx hb dX1_call_63 (lv_at hl 0 rfl) ?_
  refine lv_aload_n hx hb dX1_call_65 rfl (lv_at hl 5 rfl) ?_
  refine ztG_pc C hP dX1_call_66 ?_
  refine lv_iconst (v := 3) hx hb dX1_call_69 (by decide) ?_
  refine lv_iadd hx hb dX1_call_70 ?_
  refine ztK_write C hP hS hl.1 (by decide) (Nat.le_of_ble_eq_true rfl) (by subst hr2 hu1 hr4 hu3 hr6 hu5 hr8 hu7 hu9; exact zt_Gle (by decide) (zt_G_write _ _ (by omega) (zt_G_pair _ (zt_G_pair _ (zt_G_read _ (zt_G_pair _ (hN))))))) dX1_call_71 (fun u10 H locs hu10 hP hS => ?_)
  refine lv_aload_n hx hb dX1_call_74 rfl (lv_at hl 5 rfl) ?_
  refine lv_iload hx hb dX1_call_75 (lv_at hl 0 rfl) ?_
  refine lv_iconst (v := 1) hx hb dX1_call_77 (by decide) ?_
  refine lv_iadd hx hb dX1_call_78 ?_
  refine ztP_sp C hP hS dX1_call_79 (fun u11 H locs hu11 hP hS => ?_)
  refine lv_aload_n hx hb dX1_call_82 rfl (lv_at hl 5 rfl) ?_
  refine lv_aload_n hx hb dX1_call_83 rfl (lv_at hl 5 rfl) ?_
  refine ztG_sp C hP dX1_call_84 ?_
  refine lv_aload_n hx hb dX1_call_87 rfl (lv_at hl 5 rfl) ?_
  refine ztG_lv C hP dX1_call_88 ?_
  refine ztK_write C hP hS hl.1 (by decide) (Nat.le_of_ble_eq_true rfl) (by subst hr2 hu1 hr4 hu3 hr6 hu5 hr8 hu7 hu9 hu10 hu11; exact zt_Gle (by decide) (zt_Gs_sp _ (zt_G_write _ _ (by omega) (zt_G_write _ _ (by omega) (zt_G_pair _ (zt_G_pair _ (zt_G_read _ (zt_G_pair _ (hN))))))))) dX1_call_91 (fun u12 H locs hu12 hP hS => ?_)
  refine lv_aload_n hx hb dX1_call_94 rfl (lv_at hl 5 rfl) ?_
  refine lv_iload hx hb dX1_call_95 (lv_at hl 1 rfl) ?_
  refine ztP_lv C hP hS dX1_call_97 (fun u13 H locs hu13 hP hS => ?_)
  refine lv_aload_n hx hb dX1_call_100 rfl (lv_at hl 5 rfl) ?_
  refine lv_iload hx hb dX1_call_101 (lv_at hl 1 rfl) ?_
  refine ztP_top C hP hS dX1_call_103 (fun u14 H locs hu14 hP hS => ?_)
  refine lv_aload_n hx hb dX1_call_106 rfl (lv_at hl 5 rfl) ?_
  refine lv_iload_n hx hb dX1_call_107 rfl (lv_at hl 4 rfl) ?_
  refine lv_iconst (v := 4) hx hb dX1_call_108 (by decide) ?_
  refine lv_iadd hx hb dX1_call_109 ?_
  refine ztP_next C hP hS dX1_call_110 (fun u15 H locs hu15 hP hS => ?_)
  refine lv_bipush (v := 23) hx hb dX1_call_113 (by decide) ?_
  exact zt_iret C hr hlk hP hS (by subst hr2 hu1 hr4 hu3 hr6 hu5 hr8 hu7 hu9 hu10 hu11 hu12 hu13 hu14 hu15; exact rfl) dX1_call_115
section
variable {p : Program} {l : Launch} {e : Env} {R : Room} {s : State} {m : MethodId} {args : Array Value} {below : List Frame} {meth : Method} {c : Code} {H : Heap} {locs : List Loc} {Q : State → Prop} {cc : ByteArray} {pc nL : Nat} {ls : Array Slot} {rest : List Value} {k : Ztk} {u : Zts} {H0 : Heap}
set_option maxHeartbeats 4000000 in
set_option maxRecDepth 100000 in
theorem ztK_call (C : ZtC p s m args c cc nL k) (hP : ZtP k u H) (hS : va_S (ZtA k) H0 H locs) (hsz : ls.size = nL) (hR : 2 + 1 ≤ R.frames ∧ 8 + (6 + 11) + 40 * 2 ≤ R.locals) (hw : (rest.map fun v => v.category).sum ≤ 8) {w0 : Nat → Int32} (hN : ZtG w0 4 u) (hdg : decode cc pc = .ok (.invokevirtual 112, 3)) (kk : ∀ (r1 : Int32) (u1 : Zts) (H1 : Heap) (locs1 : List Loc), r1 = (zt_call u ).1 → u1 = (zt_call u ).2 → ZtP k u1 H1 → va_S (ZtA k) H0 H1 locs1 → W p l e R s m args below meth c H1 locs1 0 0 Q (F0 m (pc + 3) ls (.int r1 :: rest))) : W p l e R s m args below meth c H locs 0 0 Q (F0 m pc ls (.ref (zta_this k) :: rest)) :=
  zt_callV (y := yX1_call) (n := 0) (As := []) C (ztM_call l k C.2.2 u  hN) zwT_c_call zwT_l_call zwT_i_call zwT_v_call rfl (by decide +kernel) hP hS hsz hR hw rfl hdg (fun H1 locs1 hP1 hS1 => kk _ _ H1 locs1 rfl rfl hP1 hS1)
end
theorem zt_G_call {w0 : Nat → Int32} {n : Nat} {u : Zts} (hn : n ≤ 4) (h : ZtG w0 n u) : ZtG w0 (n + 3) (zt_call u ).2 := by
  unfold zt_call
  dsimp only
  repeat' split
  all_goals first | exact zt_Gle (by omega) (zt_Gs_next _ (zt_Gs_top _ (zt_Gs_lv _ (zt_G_write _ _ (by omega) (zt_Gs_sp _ (zt_G_write _ _ (by omega) (zt_G_write _ _ (by omega) (zt_G_pair _ (zt_G_pair _ (zt_G_read _ (zt_G_pair _ (h))))))))))))
def zt_giveBack (u : Zts) : Int32 × Zts :=
  let r2 := (zt_read u (ztg_lv u)).1
  let u1 := (zt_read u (ztg_lv u)).2
  let u3 := zts_sp u1 (ztg_lv u1)
  let r5 := (zt_read u3 r2).1
  let u4 := (zt_read u3 r2).2
  let u6 := zts_next u4 r5
  let r8 := (zt_read u6 (r2 + 1)).1
  let u7 := (zt_read u6 (r2 + 1)).2
  let u9 := zts_lv u7 r8
  let u10 := zt_write u9 (ztg_sp u9) (ztg_top u9)
  (9, u10)
set_option maxHeartbeats 4000000 in
set_option maxRecDepth 100000 in
theorem ztM_giveBack (l : Launch) (k : Ztk) (Dk : ZtD k) (u : Zts) {w0 : Nat → Int32} (hN : ZtG w0 4 u) : Met l yX1_giveBack (.code yX1_giveBack cX1_giveBack 2 (some .int) :: zwT) (zrm 2) (ZtB k [.ref (zta_this k)] u) (ZtQ k (some (.int (zt_giveBack u ).1)) (zt_giveBack u ).2) 0 0 (ZtA k) := by
  refine ztE_in (by decide) rfl (Nat.le_of_ble_eq_true rfl) Dk ?_
  intro p e s m below meth c ls C hr hlk hP hl
  have hx := C.1.1
  have hb := C.1.2.1
  have hl : lv_has ls 2 [(0, .ref (zta_this k))] := hl
  have hS : va_S (ZtA k) s.heap s.heap [] := va_S.rf
  refine lv_aload_n hx hb dX1_giveBack_0 rfl (lv_at hl 0 rfl) ?_
  refine lv_aload_n hx hb dX1_giveBack_1 rfl (lv_at hl 0 rfl) ?_
  refine ztG_lv C hP dX1_giveBack_2 ?_
  refine ztK_read C hP hS hl.1 (by decide) (Nat.le_of_ble_eq_true rfl) dX1_giveBack_5 (fun r2 u1 H locs hr2 hu1 hP hS => ?_)
  refine lv_istore_n (lv' := [(1, .int r2), (0, .ref (zta_this k))]) hx hb dX1_giveBack_8 rfl hl (by decide) rfl (fun ls hl => ?_)
  refine lv_aload_n hx hb dX1_giveBack_9 rfl (lv_at hl 1 rfl) ?_
  refine lv_aload_n hx hb dX1_giveBack_10 rfl (lv_at hl 1 rfl) ?_
  refine ztG_lv C hP dX1_giveBack_11 ?_
  refine ztP_sp C hP hS dX1_giveBack_14 (fun u3 H locs hu3 hP hS => ?_)
  refine lv_aload_n hx hb dX1_giveBack_17 rfl (lv_at hl 1 rfl) ?_
  refine lv_aload_n hx hb dX1_giveBack_18 rfl (lv_at hl 1 rfl) ?_
  refine lv_iload_n hx hb dX1_giveBack_19 rfl (lv_at hl 0 rfl) ?_
  refine ztK_read C hP hS hl.1 (by decide) (Nat.le_of_ble_eq_true rfl) dX1_giveBack_20 (fun r5 u4 H locs hr5 hu4 hP hS => ?_)
  refine ztP_next C hP hS dX1_giveBack_23 (fun u6 H locs hu6 hP hS => ?_)
  refine lv_aload_n hx hb dX1_giveBack_26 rfl (lv_at hl 1 rfl) ?_
  refine lv_aload_n hx hb dX1_giveBack_27 rfl (lv_at hl 1 rfl) ?_
  refine lv_iload_n hx hb dX1_giveBack_28 rfl (lv_at hl 0 rfl) ?_
  refine lv_iconst (v := 1) hx hb dX1_giveBack_29 (by decide) ?_
  refine lv_iadd hx hb dX1_giveBack_30 ?_
  refine ztK_read C hP hS hl.1 (by decide) (Nat.le_of_ble_eq_true rfl) dX1_giveBack_31 (fun r8 u7 H locs hr8 hu7 hP hS => ?_)
  refine ztP_lv C hP hS dX1_giveBack_34 (fun u9 H locs hu9 hP hS => ?_)
  refine lv_aload_n hx hb dX1_giveBack_37 rfl (lv_at hl 1 rfl) ?_
  refine lv_aload_n hx hb dX1_giveBack_38 rfl (lv_at hl 1 rfl) ?_
  refine ztG_sp C hP dX1_giveBack_39 ?_
  refine lv_aload_n hx hb dX1_giveBack_42 rfl (lv_at hl 1 rfl) ?_
  refine ztG_top C hP dX1_giveBack_43 ?_
  refine ztK_write C hP hS hl.1 (by decide) (Nat.le_of_ble_eq_true rfl) (by subst hr2 hu1 hu3 hr5 hu4 hu6 hr8 hu7 hu9; exact zt_Gle (by decide) (zt_Gs_lv _ (zt_G_read _ (zt_Gs_next _ (zt_G_read _ (zt_Gs_sp _ (zt_G_read _ (hN)))))))) dX1_giveBack_46 (fun u10 H locs hu10 hP hS => ?_)
  refine lv_bipush (v := 9) hx hb dX1_giveBack_49 (by decide) ?_
  exact zt_iret C hr hlk hP hS (by subst hr2 hu1 hu3 hr5 hu4 hu6 hr8 hu7 hu9 hu10; exact rfl) dX1_giveBack_51
section
variable {p : Program} {l : Launch} {e : Env} {R : Room} {s : State} {m : MethodId} {args : Array Value} {below : List Frame} {meth : Method} {c : Code} {H : Heap} {locs : List Loc} {Q : State → Prop} {cc : ByteArray} {pc nL : Nat} {ls : Array Slot} {rest : List Value} {k : Ztk} {u : Zts} {H0 : Heap}
set_option maxHeartbeats 4000000 in
set_option maxRecDepth 100000 in
theorem ztK_giveBack (C : ZtC p s m args c cc nL k) (hP : ZtP k u H) (hS : va_S (ZtA k) H0 H locs) (hsz : ls.size = nL) (hR : 2 + 1 ≤ R.frames ∧ 8 + (2 + 11) + 40 * 2 ≤ R.locals) (hw : (rest.map fun v => v.category).sum ≤ 8) {w0 : Nat → Int32} (hN : ZtG w0 4 u) (hdg : decode cc pc = .ok (.invokevirtual 115, 3)) (kk : ∀ (r1 : Int32) (u1 : Zts) (H1 : Heap) (locs1 : List Loc), r1 = (zt_giveBack u ).1 → u1 = (zt_giveBack u ).2 → ZtP k u1 H1 → va_S (ZtA k) H0 H1 locs1 → W p l e R s m args below meth c H1 locs1 0 0 Q (F0 m (pc + 3) ls (.int r1 :: rest))) : W p l e R s m args below meth c H locs 0 0 Q (F0 m pc ls (.ref (zta_this k) :: rest)) :=
  zt_callV (y := yX1_giveBack) (n := 0) (As := []) C (ztM_giveBack l k C.2.2 u  hN) zwT_c_giveBack zwT_l_giveBack zwT_i_giveBack zwT_v_giveBack rfl (by decide +kernel) hP hS hsz hR hw rfl hdg (fun H1 locs1 hP1 hS1 => kk _ _ H1 locs1 rfl rfl hP1 hS1)
end
theorem zt_G_giveBack {w0 : Nat → Int32} {n : Nat} {u : Zts} (hn : n ≤ 4) (h : ZtG w0 n u) : ZtG w0 (n + 1) (zt_giveBack u ).2 := by
  unfold zt_giveBack
  dsimp only
  repeat' split
  all_goals first | exact zt_Gle (by omega) (zt_G_write _ _ (by omega) (zt_Gs_lv _ (zt_G_read _ (zt_Gs_next _ (zt_G_read _ (zt_Gs_sp _ (zt_G_read _ (h))))))))
end
section
def zt_perform (u : Zts) (a1 : Int32) : Int32 × Zts :=
  let u1 := zts_next u ((ztg_pc u) + 1)
  if a1 = 0 then (
    (2, u1))
  else (
    if a1 = 16 then (
      let r5 := (zt_byteAt u1 ((ztg_pc u1) + 1)).1
      let u4 := (zt_byteAt u1 ((ztg_pc u1) + 1)).2
      let r7 := (zt_push u4 (zt_signed r5 8) 2 4).1
      let u6 := (zt_push u4 (zt_signed r5 8) 2 4).2
      (r7, u6))
    else (
      if a1 = 19 then (
        let r10 := (zt_pair u1 ((ztg_pc u1) + 1)).1
        let u9 := (zt_pair u1 ((ztg_pc u1) + 1)).2
        let r12 := (zt_read u9 ((ztg_cpp u1) + r10)).1
        let u11 := (zt_read u9 ((ztg_cpp u1) + r10)).2
        let r14 := (zt_push u11 r12 3 8).1
        let u13 := (zt_push u11 r12 3 8).2
        (r14, u13))
      else (
        if a1 = 21 then (
          let r17 := (zt_byteAt u1 ((ztg_pc u1) + 1)).1
          let u16 := (zt_byteAt u1 ((ztg_pc u1) + 1)).2
          let r19 := (zt_read u16 ((ztg_lv u1) + r17)).1
          let u18 := (zt_read u16 ((ztg_lv u1) + r17)).2
          let r21 := (zt_push u18 r19 2 6).1
          let u20 := (zt_push u18 r19 2 6).2
          (r21, u20))
        else (
          if a1 = 54 then (
            let r24 := (zt_byteAt u1 ((ztg_pc u1) + 1)).1
            let u23 := (zt_byteAt u1 ((ztg_pc u1) + 1)).2
            let r26 := (zt_store u23 ((ztg_lv u1) + r24) 2 7).1
            let u25 := (zt_store u23 ((ztg_lv u1) + r24) 2 7).2
            (r26, u25))
          else (
            if a1 = 87 then (
              let u28 := zts_sp u1 ((ztg_sp u1) - 1)
              let r30 := (zt_read u28 (ztg_sp u28)).1
              let u29 := (zt_read u28 (ztg_sp u28)).2
              let u31 := zts_top u29 r30
              (4, u31))
            else (
              if a1 = 89 then (
                let r34 := (zt_push u1 (ztg_top u1) 1 3).1
                let u33 := (zt_push u1 (ztg_top u1) 1 3).2
                (r34, u33))
              else (
                if a1 = 95 then (
                  let r37 := (zt_swap u1).1
                  let u36 := (zt_swap u1).2
                  (r37, u36))
                else (
                  if a1 = 96 then (
                    let r40 := (zt_reckon u1 a1).1
                    let u39 := (zt_reckon u1 a1).2
                    (r40, u39))
                  else (
                    if a1 = 100 then (
                      let r43 := (zt_reckon u1 a1).1
                      let u42 := (zt_reckon u1 a1).2
                      (r43, u42))
                    else (
                      if a1 = 126 then (
                        let r46 := (zt_reckon u1 a1).1
                        let u45 := (zt_reckon u1 a1).2
                        (r46, u45))
                      else (
                        if a1 = 128 then (
                          let r49 := (zt_reckon u1 a1).1
                          let u48 := (zt_reckon u1 a1).2
                          (r49, u48))
                        else (
                          if a1 = 132 then (
                            let r52 := (zt_increase u1).1
                            let u51 := (zt_increase u1).2
                            (r52, u51))
                          else (
                            if a1 = 153 then (
                              let r55 := (zt_ifs u1 a1).1
                              let u54 := (zt_ifs u1 a1).2
                              (r55, u54))
                            else (
                              if a1 = 155 then (
                                let r58 := (zt_ifs u1 a1).1
                                let u57 := (zt_ifs u1 a1).2
                                (r58, u57))
                              else (
                                if a1 = 159 then (
                                  let r61 := (zt_ifs u1 a1).1
                                  let u60 := (zt_ifs u1 a1).2
                                  (r61, u60))
                                else (
                                  if a1 = 167 then (
                                    let r64 := (zt_jump u1 1 7 7).1
                                    let u63 := (zt_jump u1 1 7 7).2
                                    (r64, u63))
                                  else (
                                    if a1 = 172 then (
                                      let r67 := (zt_giveBack u1).1
                                      let u66 := (zt_giveBack u1).2
                                      (r67, u66))
                                    else (
                                      if a1 = 182 then (
                                        let r70 := (zt_call u1).1
                                        let u69 := (zt_call u1).2
                                        (r70, u69))
                                      else (
                                        if a1 = 196 then (
                                          let r73 := (zt_wide u1).1
                                          let u72 := (zt_wide u1).2
                                          (r73, u72))
                                        else (
                                          if a1 = 255 then (
                                            let u75 := zts_next u1 (ztg_pc u1)
                                            (2, u75))
                                          else (
                                            let u76 := zts_unknown u1 1
                                            (0, u76))))))))))))))))))))))
set_option maxHeartbeats 4000000 in
set_option maxRecDepth 100000 in
theorem ztM_perform (l : Launch) (k : Ztk) (Dk : ZtD k) (u : Zts) (a1 : Int32) {w0 : Nat → Int32} (hN : ZtG w0 4 u) : Met l yX1_perform (.code yX1_perform cX1_perform 2 (some .int) :: zwT) (zrm 4) (ZtB k [.ref (zta_this k), .int a1] u) (ZtQ k (some (.int (zt_perform u a1).1)) (zt_perform u a1).2) 0 0 (ZtA k) := by
  refine ztE_in (by decide) rfl (Nat.le_of_ble_eq_true rfl) Dk ?_
  intro p e s m below meth c ls C hr hlk hP hl
  have hx := C.1.1
  have hb := C.1.2.1
  have hl : lv_has ls 2 [(0, .ref (zta_this k)), (1, .int a1)] := hl
  have hS : va_S (ZtA k) s.heap s.heap [] := va_S.rf
  refine lv_aload_n hx hb dX1_perform_0 rfl (lv_at hl 0 rfl) ?_
  refine lv_aload_n hx hb dX1_perform_1 rfl (lv_at hl 0 rfl) ?_
  refine ztG_pc C hP dX1_perform_2 ?_
  refine lv_iconst (v := 1) hx hb dX1_perform_5 (by decide) ?_
  refine lv_iadd hx hb dX1_perform_6 ?_
  refine ztP_next C hP hS dX1_perform_7 (fun u1 H locs hu1 hP hS => ?_)
  refine lv_iload_n hx hb dX1_perform_10 rfl (lv_at hl 1 rfl) ?_
  by_cases c2 : a1 = 0
  · refine lv_lookup (off := 177) (tgt := 188) hx hb dX1_perform_11 (by decide) (z_sw c2 (by decide)) (by decide) ?_
    refine lv_iconst (v := 2) hx hb dX1_perform_188 (by decide) ?_
    exact zt_iret C hr hlk hP hS (by subst hu1; exact (if_pos c2).trans (rfl)) dX1_perform_189
  · skip
    by_cases c3 : a1 = 16
    · refine lv_lookup (off := 225) (tgt := 236) hx hb dX1_perform_11 (by decide) (z_sw c3 (by decide)) (by decide) ?_
      refine lv_aload_n hx hb dX1_perform_236 rfl (lv_at hl 0 rfl) ?_
      refine lv_aload_n hx hb dX1_perform_237 rfl (lv_at hl 0 rfl) ?_
      refine lv_aload_n hx hb dX1_perform_238 rfl (lv_at hl 0 rfl) ?_
      refine ztG_pc C hP dX1_perform_239 ?_
      refine lv_iconst (v := 1) hx hb dX1_perform_242 (by decide) ?_
      refine lv_iadd hx hb dX1_perform_243 ?_
      refine ztK_byteAt C hP hS hl.1 (by decide) (Nat.le_of_ble_eq_true rfl) dX1_perform_244 (fun r5 u4 H locs hr5 hu4 hP hS => ?_)
      refine lv_bipush (v := 8) hx hb dX1_perform_247 (by decide) ?_
      refine ztK_signed C hl.1 (by decide) (Nat.le_of_ble_eq_true rfl) dX1_perform_249 ?_
      refine lv_iconst (v := 2) hx hb dX1_perform_252 (by decide) ?_
      refine lv_iconst (v := 4) hx hb dX1_perform_253 (by decide) ?_
      refine ztK_push C hP hS hl.1 (by decide) (Nat.le_of_ble_eq_true rfl) (by subst hu1 hr5 hu4; exact zt_Gle (by decide) (zt_G_byteAt _ (zt_Gs_next _ (hN)))) dX1_perform_254 (fun r7 u6 H locs hr7 hu6 hP hS => ?_)
      exact zt_iret C hr hlk hP hS (by subst hu1 hr5 hu4 hr7 hu6; exact (if_neg c2).trans ((if_pos c3).trans (rfl))) dX1_perform_257
    · skip
      by_cases c8 : a1 = 19
      · refine lv_lookup (off := 302) (tgt := 313) hx hb dX1_perform_11 (by decide) (z_sw c8 (by decide)) (by decide) ?_
        refine lv_aload_n hx hb dX1_perform_313 rfl (lv_at hl 0 rfl) ?_
        refine lv_aload_n hx hb dX1_perform_314 rfl (lv_at hl 0 rfl) ?_
        refine lv_aload_n hx hb dX1_perform_315 rfl (lv_at hl 0 rfl) ?_
        refine ztG_cpp C hP dX1_perform_316 ?_
        refine lv_aload_n hx hb dX1_perform_319 rfl (lv_at hl 0 rfl) ?_
        refine lv_aload_n hx hb dX1_perform_320 rfl (lv_at hl 0 rfl) ?_
        refine ztG_pc C hP dX1_perform_321 ?_
        refine lv_iconst (v := 1) hx hb dX1_perform_324 (by decide) ?_
        refine lv_iadd hx hb dX1_perform_325 ?_
        refine ztK_pair C hP hS hl.1 (by decide) (Nat.le_of_ble_eq_true rfl) dX1_perform_326 (fun r10 u9 H locs hr10 hu9 hP hS => ?_)
        refine lv_iadd hx hb dX1_perform_329 ?_
        refine ztK_read C hP hS hl.1 (by decide) (Nat.le_of_ble_eq_true rfl) dX1_perform_330 (fun r12 u11 H locs hr12 hu11 hP hS => ?_)
        refine lv_iconst (v := 3) hx hb dX1_perform_333 (by decide) ?_
        refine lv_bipush (v := 8) hx hb dX1_perform_334 (by decide) ?_
        refine ztK_push C hP hS hl.1 (by decide) (Nat.le_of_ble_eq_true rfl) (by subst hu1 hr10 hu9 hr12 hu11; exact zt_Gle (by decide) (zt_G_read _ (zt_G_pair _ (zt_Gs_next _ (hN))))) dX1_perform_336 (fun r14 u13 H locs hr14 hu13 hP hS => ?_)
        exact zt_iret C hr hlk hP hS (by subst hu1 hr10 hu9 hr12 hu11 hr14 hu13; exact (if_neg c2).trans ((if_neg c3).trans ((if_pos c8).trans (rfl)))) dX1_perform_339
      · skip
        by_cases c15 : a1 = 21
        · refine lv_lookup (off := 247) (tgt := 258) hx hb dX1_perform_11 (by decide) (z_sw c15 (by decide)) (by decide) ?_
          refine lv_aload_n hx hb dX1_perform_258 rfl (lv_at hl 0 rfl) ?_
          refine lv_aload_n hx hb dX1_perform_259 rfl (lv_at hl 0 rfl) ?_
          refine lv_aload_n hx hb dX1_perform_260 rfl (lv_at hl 0 rfl) ?_
          refine ztG_lv C hP dX1_perform_261 ?_
          refine lv_aload_n hx hb dX1_perform_264 rfl (lv_at hl 0 rfl) ?_
          refine lv_aload_n hx hb dX1_perform_265 rfl (lv_at hl 0 rfl) ?_
          refine ztG_pc C hP dX1_perform_266 ?_
          refine lv_iconst (v := 1) hx hb dX1_perform_269 (by decide) ?_
          refine lv_iadd hx hb dX1_perform_270 ?_
          refine ztK_byteAt C hP hS hl.1 (by decide) (Nat.le_of_ble_eq_true rfl) dX1_perform_271 (fun r17 u16 H locs hr17 hu16 hP hS => ?_)
          refine lv_iadd hx hb dX1_perform_274 ?_
          refine ztK_read C hP hS hl.1 (by decide) (Nat.le_of_ble_eq_true rfl) dX1_perform_275 (fun r19 u18 H locs hr19 hu18 hP hS => ?_)
          refine lv_iconst (v := 2) hx hb dX1_perform_278 (by decide) ?_
          refine lv_bipush (v := 6) hx hb dX1_perform_279 (by decide) ?_
          refine ztK_push C hP hS hl.1 (by decide) (Nat.le_of_ble_eq_true rfl) (by subst hu1 hr17 hu16 hr19 hu18; exact zt_Gle (by decide) (zt_G_read _ (zt_G_byteAt _ (zt_Gs_next _ (hN))))) dX1_perform_281 (fun r21 u20 H locs hr21 hu20 hP hS => ?_)
          exact zt_iret C hr hlk hP hS (by subst hu1 hr17 hu16 hr19 hu18 hr21 hu20; exact (if_neg c2).trans ((if_neg c3).trans ((if_neg c8).trans ((if_pos c15).trans (rfl))))) dX1_perform_284
        · skip
          by_cases c22 : a1 = 54
          · refine lv_lookup (off := 274) (tgt := 285) hx hb dX1_perform_11 (by decide) (z_sw c22 (by decide)) (by decide) ?_
            refine lv_aload_n hx hb dX1_perform_285 rfl (lv_at hl 0 rfl) ?_
            refine lv_aload_n hx hb dX1_perform_286 rfl (lv_at hl 0 rfl) ?_
            refine ztG_lv C hP dX1_perform_287 ?_
            refine lv_aload_n hx hb dX1_perform_290 rfl (lv_at hl 0 rfl) ?_
            refine lv_aload_n hx hb dX1_perform_291 rfl (lv_at hl 0 rfl) ?_
            refine ztG_pc C hP dX1_perform_292 ?_
            refine lv_iconst (v := 1) hx hb dX1_perform_295 (by decide) ?_
            refine lv_iadd hx hb dX1_perform_296 ?_
            refine ztK_byteAt C hP hS hl.1 (by decide) (Nat.le_of_ble_eq_true rfl) dX1_perform_297 (fun r24 u23 H locs hr24 hu23 hP hS => ?_)
            refine lv_iadd hx hb dX1_perform_300 ?_
            refine lv_iconst (v := 2) hx hb dX1_perform_301 (by decide) ?_
            refine lv_bipush (v := 7) hx hb dX1_perform_302 (by decide) ?_
            refine ztK_store C hP hS hl.1 (by decide) (Nat.le_of_ble_eq_true rfl) (by subst hu1 hr24 hu23; exact zt_Gle (by decide) (zt_G_byteAt _ (zt_Gs_next _ (hN)))) dX1_perform_304 (fun r26 u25 H locs hr26 hu25 hP hS => ?_)
            exact zt_iret C hr hlk hP hS (by subst hu1 hr24 hu23 hr26 hu25; exact (if_neg c2).trans ((if_neg c3).trans ((if_neg c8).trans ((if_neg c15).trans ((if_pos c22).trans (rfl)))))) dX1_perform_307
          · skip
            by_cases c27 : a1 = 87
            · refine lv_lookup (off := 196) (tgt := 207) hx hb dX1_perform_11 (by decide) (z_sw c27 (by decide)) (by decide) ?_
              refine lv_aload_n hx hb dX1_perform_207 rfl (lv_at hl 0 rfl) ?_
              refine lv_dup hx hb dX1_perform_208 rfl ?_
              refine ztG_sp C hP dX1_perform_209 ?_
              refine lv_iconst (v := 1) hx hb dX1_perform_212 (by decide) ?_
              refine lv_isub hx hb dX1_perform_213 ?_
              refine ztP_sp C hP hS dX1_perform_214 (fun u28 H locs hu28 hP hS => ?_)
              refine lv_aload_n hx hb dX1_perform_217 rfl (lv_at hl 0 rfl) ?_
              refine lv_aload_n hx hb dX1_perform_218 rfl (lv_at hl 0 rfl) ?_
              refine lv_aload_n hx hb dX1_perform_219 rfl (lv_at hl 0 rfl) ?_
              refine ztG_sp C hP dX1_perform_220 ?_
              refine ztK_read C hP hS hl.1 (by decide) (Nat.le_of_ble_eq_true rfl) dX1_perform_223 (fun r30 u29 H locs hr30 hu29 hP hS => ?_)
              refine ztP_top C hP hS dX1_perform_226 (fun u31 H locs hu31 hP hS => ?_)
              refine lv_iconst (v := 4) hx hb dX1_perform_229 (by decide) ?_
              exact zt_iret C hr hlk hP hS (by subst hu1 hu28 hr30 hu29 hu31; exact (if_neg c2).trans ((if_neg c3).trans ((if_neg c8).trans ((if_neg c15).trans ((if_neg c22).trans ((if_pos c27).trans (rfl))))))) dX1_perform_230
            · skip
              by_cases c32 : a1 = 89
              · refine lv_lookup (off := 185) (tgt := 196) hx hb dX1_perform_11 (by decide) (z_sw c32 (by decide)) (by decide) ?_
                refine lv_aload_n hx hb dX1_perform_196 rfl (lv_at hl 0 rfl) ?_
                refine lv_aload_n hx hb dX1_perform_197 rfl (lv_at hl 0 rfl) ?_
                refine ztG_top C hP dX1_perform_198 ?_
                refine lv_iconst (v := 1) hx hb dX1_perform_201 (by decide) ?_
                refine lv_iconst (v := 3) hx hb dX1_perform_202 (by decide) ?_
                refine ztK_push C hP hS hl.1 (by decide) (Nat.le_of_ble_eq_true rfl) (by subst hu1; exact zt_Gle (by decide) (zt_Gs_next _ (hN))) dX1_perform_203 (fun r34 u33 H locs hr34 hu33 hP hS => ?_)
                exact zt_iret C hr hlk hP hS (by subst hu1 hr34 hu33; exact (if_neg c2).trans ((if_neg c3).trans ((if_neg c8).trans ((if_neg c15).trans ((if_neg c22).trans ((if_neg c27).trans ((if_pos c32).trans (rfl)))))))) dX1_perform_206
              · skip
                by_cases c35 : a1 = 95
                · refine lv_lookup (off := 220) (tgt := 231) hx hb dX1_perform_11 (by decide) (z_sw c35 (by decide)) (by decide) ?_
                  refine lv_aload_n hx hb dX1_perform_231 rfl (lv_at hl 0 rfl) ?_
                  refine ztK_swap C hP hS hl.1 (by decide) (Nat.le_of_ble_eq_true rfl) (by subst hu1; exact zt_Gle (by decide) (zt_Gs_next _ (hN))) dX1_perform_232 (fun r37 u36 H locs hr37 hu36 hP hS => ?_)
                  exact zt_iret C hr hlk hP hS (by subst hu1 hr37 hu36; exact (if_neg c2).trans ((if_neg c3).trans ((if_neg c8).trans ((if_neg c15).trans ((if_neg c22).trans ((if_neg c27).trans ((if_neg c32).trans ((if_pos c35).trans (rfl))))))))) dX1_perform_235
                · skip
                  by_cases c38 : a1 = 96
                  · refine lv_lookup (off := 179) (tgt := 190) hx hb dX1_perform_11 (by decide) (z_sw c38 (by decide)) (by decide) ?_
                    refine lv_aload_n hx hb dX1_perform_190 rfl (lv_at hl 0 rfl) ?_
                    refine lv_iload_n hx hb dX1_perform_191 rfl (lv_at hl 1 rfl) ?_
                    refine ztK_reckon C hP hS hl.1 (by decide) (Nat.le_of_ble_eq_true rfl) (by subst hu1; exact zt_Gle (by decide) (zt_Gs_next _ (hN))) dX1_perform_192 (fun r40 u39 H locs hr40 hu39 hP hS => ?_)
                    exact zt_iret C hr hlk hP hS (by subst hu1 hr40 hu39; exact (if_neg c2).trans ((if_neg c3).trans ((if_neg c8).trans ((if_neg c15).trans ((if_neg c22).trans ((if_neg c27).trans ((if_neg c32).trans ((if_neg c35).trans ((if_pos c38).trans (rfl)))))))))) dX1_perform_195
                  · skip
                    by_cases c41 : a1 = 100
                    · refine lv_lookup (off := 179) (tgt := 190) hx hb dX1_perform_11 (by decide) (z_sw c41 (by decide)) (by decide) ?_
                      refine lv_aload_n hx hb dX1_perform_190 rfl (lv_at hl 0 rfl) ?_
                      refine lv_iload_n hx hb dX1_perform_191 rfl (lv_at hl 1 rfl) ?_
                      refine ztK_reckon C hP hS hl.1 (by decide) (Nat.le_of_ble_eq_true rfl) (by subst hu1; exact zt_Gle (by decide) (zt_Gs_next _ (hN))) dX1_perform_192 (fun r43 u42 H locs hr43 hu42 hP hS => ?_)
                      exact zt_iret C hr hlk hP hS (by subst hu1 hr43 hu42; exact (if_neg c2).trans ((if_neg c3).trans ((if_neg c8).trans ((if_neg c15).trans ((if_neg c22).trans ((if_neg c27).trans ((if_neg c32).trans ((if_neg c35).trans ((if_neg c38).trans ((if_pos c41).trans (rfl))))))))))) dX1_perform_195
                    · skip
                      by_cases c44 : a1 = 126
                      · refine lv_lookup (off := 179) (tgt := 190) hx hb dX1_perform_11 (by decide) (z_sw c44 (by decide)) (by decide) ?_
                        refine lv_aload_n hx hb dX1_perform_190 rfl (lv_at hl 0 rfl) ?_
                        refine lv_iload_n hx hb dX1_perform_191 rfl (lv_at hl 1 rfl) ?_
                        refine ztK_reckon C hP hS hl.1 (by decide) (Nat.le_of_ble_eq_true rfl) (by subst hu1; exact zt_Gle (by decide) (zt_Gs_next _ (hN))) dX1_perform_192 (fun r46 u45 H locs hr46 hu45 hP hS => ?_)
                        exact zt_iret C hr hlk hP hS (by subst hu1 hr46 hu45; exact (if_neg c2).trans ((if_neg c3).trans ((if_neg c8).trans ((if_neg c15).trans ((if_neg c22).trans ((if_neg c27).trans ((if_neg c32).trans ((if_neg c35).trans ((if_neg c38).trans ((if_neg c41).trans ((if_pos c44).trans (rfl)))))))))))) dX1_perform_195
                      · skip
                        by_cases c47 : a1 = 128
                        · refine lv_lookup (off := 179) (tgt := 190) hx hb dX1_perform_11 (by decide) (z_sw c47 (by decide)) (by decide) ?_
                          refine lv_aload_n hx hb dX1_perform_190 rfl (lv_at hl 0 rfl) ?_
                          refine lv_iload_n hx hb dX1_perform_191 rfl (lv_at hl 1 rfl) ?_
                          refine ztK_reckon C hP hS hl.1 (by decide) (Nat.le_of_ble_eq_true rfl) (by subst hu1; exact zt_Gle (by decide) (zt_Gs_next _ (hN))) dX1_perform_192 (fun r49 u48 H locs hr49 hu48 hP hS => ?_)
                          exact zt_iret C hr hlk hP hS (by subst hu1 hr49 hu48; exact (if_neg c2).trans ((if_neg c3).trans ((if_neg c8).trans ((if_neg c15).trans ((if_neg c22).trans ((if_neg c27).trans ((if_neg c32).trans ((if_neg c35).trans ((if_neg c38).trans ((if_neg c41).trans ((if_neg c44).trans ((if_pos c47).trans (rfl))))))))))))) dX1_perform_195
                        · skip
                          by_cases c50 : a1 = 132
                          · refine lv_lookup (off := 329) (tgt := 340) hx hb dX1_perform_11 (by decide) (z_sw c50 (by decide)) (by decide) ?_
                            refine lv_aload_n hx hb dX1_perform_340 rfl (lv_at hl 0 rfl) ?_
                            refine ztK_increase C hP hS hl.1 (by decide) (Nat.le_of_ble_eq_true rfl) (by subst hu1; exact zt_Gle (by decide) (zt_Gs_next _ (hN))) dX1_perform_341 (fun r52 u51 H locs hr52 hu51 hP hS => ?_)
                            exact zt_iret C hr hlk hP hS (by subst hu1 hr52 hu51; exact (if_neg c2).trans ((if_neg c3).trans ((if_neg c8).trans ((if_neg c15).trans ((if_neg c22).trans ((if_neg c27).trans ((if_neg c32).trans ((if_neg c35).trans ((if_neg c38).trans ((if_neg c41).trans ((if_neg c44).trans ((if_neg c47).trans ((if_pos c50).trans (rfl)))))))))))))) dX1_perform_344
                          · skip
                            by_cases c53 : a1 = 153
                            · refine lv_lookup (off := 344) (tgt := 355) hx hb dX1_perform_11 (by decide) (z_sw c53 (by decide)) (by decide) ?_
                              refine lv_aload_n hx hb dX1_perform_355 rfl (lv_at hl 0 rfl) ?_
                              refine lv_iload_n hx hb dX1_perform_356 rfl (lv_at hl 1 rfl) ?_
                              refine ztK_ifs C hP hS hl.1 (by decide) (Nat.le_of_ble_eq_true rfl) dX1_perform_357 (fun r55 u54 H locs hr55 hu54 hP hS => ?_)
                              exact zt_iret C hr hlk hP hS (by subst hu1 hr55 hu54; exact (if_neg c2).trans ((if_neg c3).trans ((if_neg c8).trans ((if_neg c15).trans ((if_neg c22).trans ((if_neg c27).trans ((if_neg c32).trans ((if_neg c35).trans ((if_neg c38).trans ((if_neg c41).trans ((if_neg c44).trans ((if_neg c47).trans ((if_neg c50).trans ((if_pos c53).trans (rfl))))))))))))))) dX1_perform_360
                            · skip
                              by_cases c56 : a1 = 155
                              · refine lv_lookup (off := 344) (tgt := 355) hx hb dX1_perform_11 (by decide) (z_sw c56 (by decide)) (by decide) ?_
                                refine lv_aload_n hx hb dX1_perform_355 rfl (lv_at hl 0 rfl) ?_
                                refine lv_iload_n hx hb dX1_perform_356 rfl (lv_at hl 1 rfl) ?_
                                refine ztK_ifs C hP hS hl.1 (by decide) (Nat.le_of_ble_eq_true rfl) dX1_perform_357 (fun r58 u57 H locs hr58 hu57 hP hS => ?_)
                                exact zt_iret C hr hlk hP hS (by subst hu1 hr58 hu57; exact (if_neg c2).trans ((if_neg c3).trans ((if_neg c8).trans ((if_neg c15).trans ((if_neg c22).trans ((if_neg c27).trans ((if_neg c32).trans ((if_neg c35).trans ((if_neg c38).trans ((if_neg c41).trans ((if_neg c44).trans ((if_neg c47).trans ((if_neg c50).trans ((if_neg c53).trans ((if_pos c56).trans (rfl)))))))))))))))) dX1_perform_360
                              · skip
                                by_cases c59 : a1 = 159
                                · refine lv_lookup (off := 344) (tgt := 355) hx hb dX1_perform_11 (by decide) (z_sw c59 (by decide)) (by decide) ?_
                                  refine lv_aload_n hx hb dX1_perform_355 rfl (lv_at hl 0 rfl) ?_
                                  refine lv_iload_n hx hb dX1_perform_356 rfl (lv_at hl 1 rfl) ?_
                                  refine ztK_ifs C hP hS hl.1 (by decide) (Nat.le_of_ble_eq_true rfl) dX1_perform_357 (fun r61 u60 H locs hr61 hu60 hP hS => ?_)
                                  exact zt_iret C hr hlk hP hS (by subst hu1 hr61 hu60; exact (if_neg c2).trans ((if_neg c3).trans ((if_neg c8).trans ((if_neg c15).trans ((if_neg c22).trans ((if_neg c27).trans ((if_neg c32).trans ((if_neg c35).trans ((if_neg c38).trans ((if_neg c41).trans ((if_neg c44).trans ((if_neg c47).trans ((if_neg c50).trans ((if_neg c53).trans ((if_neg c56).trans ((if_pos c59).trans (rfl))))))))))))))))) dX1_perform_360
                                · skip
                                  by_cases c62 : a1 = 167
                                  · refine lv_lookup (off := 334) (tgt := 345) hx hb dX1_perform_11 (by decide) (z_sw c62 (by decide)) (by decide) ?_
                                    refine lv_aload_n hx hb dX1_perform_345 rfl (lv_at hl 0 rfl) ?_
                                    refine lv_iconst (v := 1) hx hb dX1_perform_346 (by decide) ?_
                                    refine lv_bipush (v := 7) hx hb dX1_perform_347 (by decide) ?_
                                    refine lv_bipush (v := 7) hx hb dX1_perform_349 (by decide) ?_
                                    refine ztK_jump C hP hS hl.1 (by decide) (Nat.le_of_ble_eq_true rfl) dX1_perform_351 (fun r64 u63 H locs hr64 hu63 hP hS => ?_)
                                    exact zt_iret C hr hlk hP hS (by subst hu1 hr64 hu63; exact (if_neg c2).trans ((if_neg c3).trans ((if_neg c8).trans ((if_neg c15).trans ((if_neg c22).trans ((if_neg c27).trans ((if_neg c32).trans ((if_neg c35).trans ((if_neg c38).trans ((if_neg c41).trans ((if_neg c44).trans ((if_neg c47).trans ((if_neg c50).trans ((if_neg c53).trans ((if_neg c56).trans ((if_neg c59).trans ((if_pos c62).trans (rfl)))))))))))))))))) dX1_perform_354
                                  · skip
                                    by_cases c65 : a1 = 172
                                    · refine lv_lookup (off := 355) (tgt := 366) hx hb dX1_perform_11 (by decide) (z_sw c65 (by decide)) (by decide) ?_
                                      refine lv_aload_n hx hb dX1_perform_366 rfl (lv_at hl 0 rfl) ?_
                                      refine ztK_giveBack C hP hS hl.1 (by decide) (Nat.le_of_ble_eq_true rfl) (by subst hu1; exact zt_Gle (by decide) (zt_Gs_next _ (hN))) dX1_perform_367 (fun r67 u66 H locs hr67 hu66 hP hS => ?_)
                                      exact zt_iret C hr hlk hP hS (by subst hu1 hr67 hu66; exact (if_neg c2).trans ((if_neg c3).trans ((if_neg c8).trans ((if_neg c15).trans ((if_neg c22).trans ((if_neg c27).trans ((if_neg c32).trans ((if_neg c35).trans ((if_neg c38).trans ((if_neg c41).trans ((if_neg c44).trans ((if_neg c47).trans ((if_neg c50).trans ((if_neg c53).trans ((if_neg c56).trans ((if_neg c59).trans ((if_neg c62).trans ((if_pos c65).trans (rfl))))))))))))))))))) dX1_perform_370
                                    · skip
                                      by_cases c68 : a1 = 182
                                      · refine lv_lookup (off := 350) (tgt := 361) hx hb dX1_perform_11 (by decide) (z_sw c68 (by decide)) (by decide) ?_
                                        refine lv_aload_n hx hb dX1_perform_361 rfl (lv_at hl 0 rfl) ?_
                                        refine ztK_call C hP hS hl.1 (by decide) (Nat.le_of_ble_eq_true rfl) (by subst hu1; exact zt_Gle (by decide) (zt_Gs_next _ (hN))) dX1_perform_362 (fun r70 u69 H locs hr70 hu69 hP hS => ?_)
                                        exact zt_iret C hr hlk hP hS (by subst hu1 hr70 hu69; exact (if_neg c2).trans ((if_neg c3).trans ((if_neg c8).trans ((if_neg c15).trans ((if_neg c22).trans ((if_neg c27).trans ((if_neg c32).trans ((if_neg c35).trans ((if_neg c38).trans ((if_neg c41).trans ((if_neg c44).trans ((if_neg c47).trans ((if_neg c50).trans ((if_neg c53).trans ((if_neg c56).trans ((if_neg c59).trans ((if_neg c62).trans ((if_neg c65).trans ((if_pos c68).trans (rfl)))))))))))))))))))) dX1_perform_365
                                      · skip
                                        by_cases c71 : a1 = 196
                                        · refine lv_lookup (off := 297) (tgt := 308) hx hb dX1_perform_11 (by decide) (z_sw c71 (by decide)) (by decide) ?_
                                          refine lv_aload_n hx hb dX1_perform_308 rfl (lv_at hl 0 rfl) ?_
                                          refine ztK_wide C hP hS hl.1 (by decide) (Nat.le_of_ble_eq_true rfl) (by subst hu1; exact zt_Gle (by decide) (zt_Gs_next _ (hN))) dX1_perform_309 (fun r73 u72 H locs hr73 hu72 hP hS => ?_)
                                          exact zt_iret C hr hlk hP hS (by subst hu1 hr73 hu72; exact (if_neg c2).trans ((if_neg c3).trans ((if_neg c8).trans ((if_neg c15).trans ((if_neg c22).trans ((if_neg c27).trans ((if_neg c32).trans ((if_neg c35).trans ((if_neg c38).trans ((if_neg c41).trans ((if_neg c44).trans ((if_neg c47).trans ((if_neg c50).trans ((if_neg c53).trans ((if_neg c56).trans ((if_neg c59).trans ((if_neg c62).trans ((if_neg c65).trans ((if_neg c68).trans ((if_pos c71).trans (rfl))))))))))))))))))))) dX1_perform_312
                                        · skip
                                          by_cases c74 : a1 = 255
                                          · refine lv_lookup (off := 360) (tgt := 371) hx hb dX1_perform_11 (by decide) (z_sw c74 (by decide)) (by decide) ?_
                                            refine lv_aload_n hx hb dX1_perform_371 rfl (lv_at hl 0 rfl) ?_
                                            refine lv_aload_n hx hb dX1_perform_372 rfl (lv_at hl 0 rfl) ?_
                                            refine ztG_pc C hP dX1_perform_373 ?_
                                            refine ztP_next C hP hS dX1_perform_376 (fun u75 H locs hu75 hP hS => ?_)
                                            refine lv_iconst (v := 2) hx hb dX1_perform_379 (by decide) ?_
                                            exact zt_iret C hr hlk hP hS (by subst hu1 hu75; exact (if_neg c2).trans ((if_neg c3).trans ((if_neg c8).trans ((if_neg c15).trans ((if_neg c22).trans ((if_neg c27).trans ((if_neg c32).trans ((if_neg c35).trans ((if_neg c38).trans ((if_neg c41).trans ((if_neg c44).trans ((if_neg c47).trans ((if_neg c50).trans ((if_neg c53).trans ((if_neg c56).trans ((if_neg c59).trans ((if_neg c62).trans ((if_neg c65).trans ((if_neg c68).trans ((if_neg c71).trans ((if_pos c74).trans (rfl)))))))))))))))))))))) dX1_perform_380
                                          · skip
                                            refine lv_lookup (off := 370) (tgt := 381) hx hb dX1_perform_11 (by decide) ((lv_osw c2 (by decide)).trans ((lv_osw c3 (by decide)).trans ((lv_osw c8 (by decide)).trans ((lv_osw c15 (by decide)).trans ((lv_osw c22 (by decide)).trans ((lv_osw c27 (by decide)).trans ((lv_osw c32 (by decide)).trans ((lv_osw c35 (by decide)).trans ((lv_osw c38 (by decide)).trans ((lv_osw c41 (by decide)).trans ((lv_osw c44 (by decide)).trans ((lv_osw c47 (by decide)).trans ((lv_osw c50 (by decide)).trans ((lv_osw c53 (by decide)).trans ((lv_osw c56 (by decide)).trans ((lv_osw c59 (by decide)).trans ((lv_osw c62 (by decide)).trans ((lv_osw c65 (by decide)).trans ((lv_osw c68 (by decide)).trans ((lv_osw c71 (by decide)).trans ((lv_osw c74 (by decide)).trans (rfl)))))))))))))))))))))) (by decide) ?_
                                            refine lv_aload_n hx hb dX1_perform_381 rfl (lv_at hl 0 rfl) ?_
                                            refine lv_iconst (v := 1) hx hb dX1_perform_382 (by decide) ?_
                                            refine ztP_unknown C hP hS rfl rfl dX1_perform_383 (fun u76 H locs hu76 hP hS => ?_)
                                            refine lv_iconst (v := 0) hx hb dX1_perform_386 (by decide) ?_
                                            exact zt_iret C hr hlk hP hS (by subst hu1 hu76; exact (if_neg c2).trans ((if_neg c3).trans ((if_neg c8).trans ((if_neg c15).trans ((if_neg c22).trans ((if_neg c27).trans ((if_neg c32).trans ((if_neg c35).trans ((if_neg c38).trans ((if_neg c41).trans ((if_neg c44).trans ((if_neg c47).trans ((if_neg c50).trans ((if_neg c53).trans ((if_neg c56).trans ((if_neg c59).trans ((if_neg c62).trans ((if_neg c65).trans ((if_neg c68).trans ((if_neg c71).trans ((if_neg c74).trans (rfl)))))))))))))))))))))) dX1_perform_387
section
variable {p : Program} {l : Launch} {e : Env} {R : Room} {s : State} {m : MethodId} {args : Array Value} {below : List Frame} {meth : Method} {c : Code} {H : Heap} {locs : List Loc} {Q : State → Prop} {cc : ByteArray} {pc nL : Nat} {ls : Array Slot} {rest : List Value} {k : Ztk} {u : Zts} {H0 : Heap}
set_option maxHeartbeats 4000000 in
set_option maxRecDepth 100000 in
theorem ztK_perform {a1 : Int32} (C : ZtC p s m args c cc nL k) (hP : ZtP k u H) (hS : va_S (ZtA k) H0 H locs) (hsz : ls.size = nL) (hR : 4 + 1 ≤ R.frames ∧ 8 + (2 + 11) + 40 * 4 ≤ R.locals) (hw : (rest.map fun v => v.category).sum ≤ 8) {w0 : Nat → Int32} (hN : ZtG w0 4 u) (hdg : decode cc pc = .ok (.invokevirtual 118, 3)) (kk : ∀ (r1 : Int32) (u1 : Zts) (H1 : Heap) (locs1 : List Loc), r1 = (zt_perform u a1).1 → u1 = (zt_perform u a1).2 → ZtP k u1 H1 → va_S (ZtA k) H0 H1 locs1 → W p l e R s m args below meth c H1 locs1 0 0 Q (F0 m (pc + 3) ls (.int r1 :: rest))) : W p l e R s m args below meth c H locs 0 0 Q (F0 m pc ls (.int a1 :: .ref (zta_this k) :: rest)) :=
  zt_callV (y := yX1_perform) (n := 1) (As := [.int a1]) C (ztM_perform l k C.2.2 u a1 hN) zwT_c_perform zwT_l_perform zwT_i_perform zwT_v_perform rfl (by decide +kernel) hP hS hsz hR hw rfl hdg (fun H1 locs1 hP1 hS1 => kk _ _ H1 locs1 rfl rfl hP1 hS1)
end
theorem zt_G_perform {w0 : Nat → Int32} {n : Nat} {u : Zts} (a1 : Int32) (hn : n ≤ 4) (h : ZtG w0 n u) : ZtG w0 (n + 3) (zt_perform u a1).2 := by
  unfold zt_perform
  dsimp only
  repeat' split
  all_goals first | exact zt_Gle (by omega) (zt_Gs_next _ (h)) | exact zt_Gle (by omega) (zt_G_ifs _ (zt_Gs_next _ (h))) | exact zt_Gle (by omega) (zt_Gs_next _ (zt_Gs_next _ (h))) | exact zt_Gle (by omega) (zt_G_jump _ _ _ (zt_Gs_next _ (h))) | exact zt_Gle (by omega) (zt_Gs_unknown _ (zt_Gs_next _ (h))) | exact zt_Gle (by omega) (zt_G_call  (by omega) (zt_Gs_next _ (h))) | exact zt_Gle (by omega) (zt_G_wide  (by omega) (zt_Gs_next _ (h))) | exact zt_Gle (by omega) (zt_G_swap  (by omega) (zt_Gs_next _ (h))) | exact zt_Gle (by omega) (zt_G_reckon _ (by omega) (zt_Gs_next _ (h))) | exact zt_Gle (by omega) (zt_G_giveBack  (by omega) (zt_Gs_next _ (h))) | exact zt_Gle (by omega) (zt_G_increase  (by omega) (zt_Gs_next _ (h))) | exact zt_Gle (by omega) (zt_G_push _ _ _ (by omega) (zt_Gs_next _ (h))) | exact zt_Gle (by omega) (zt_Gs_top _ (zt_G_read _ (zt_Gs_sp _ (zt_Gs_next _ (h))))) | exact zt_Gle (by omega) (zt_G_push _ _ _ (by omega) (zt_G_byteAt _ (zt_Gs_next _ (h)))) | exact zt_Gle (by omega) (zt_G_store _ _ _ (by omega) (zt_G_byteAt _ (zt_Gs_next _ (h)))) | exact zt_Gle (by omega) (zt_G_push _ _ _ (by omega) (zt_G_read _ (zt_G_pair _ (zt_Gs_next _ (h))))) | exact zt_Gle (by omega) (zt_G_push _ _ _ (by omega) (zt_G_read _ (zt_G_byteAt _ (zt_Gs_next _ (h)))))
def zt_word (u : Zts) (a1 a2 : Int32) : Zts :=
  if (zt_isWord a1) = 0 then (
    let u2 := zts_thrown u 1
    u2)
  else (
    let u3 := zts_thrown u 0
    let u4 := zts_words u3 (upd (ztg_words u3) a1.toNatClampNeg a2)
    u4)
set_option maxHeartbeats 4000000 in
set_option maxRecDepth 100000 in
theorem ztM_word (l : Launch) (k : Ztk) (Dk : ZtD k) (u : Zts) (a1 a2 : Int32) : Met l yX1_word (.code yX1_word cX1_word 3 none :: zwT) (zrm 1) (ZtB k [.ref (zta_this k), .int a1, .int a2] u) (ZtQ k none (zt_word u a1 a2)) 0 0 (ZtA k) := by
  refine ztE_in (by decide) rfl (Nat.le_of_ble_eq_true rfl) Dk ?_
  intro p e s m below meth c ls C hr hlk hP hl
  have hx := C.1.1
  have hb := C.1.2.1
  have hl : lv_has ls 3 [(0, .ref (zta_this k)), (1, .int a1), (2, .int a2)] := hl
  have hS : va_S (ZtA k) s.heap s.heap [] := va_S.rf
  refine lv_aload_n hx hb dX1_word_0 rfl (lv_at hl 0 rfl) ?_
  refine lv_iload_n hx hb dX1_word_1 rfl (lv_at hl 1 rfl) ?_
  refine ztK_isWord C hl.1 (by decide) (Nat.le_of_ble_eq_true rfl) dX1_word_2 ?_
  refine lv_if_eq (tgt := 12) hx hb dX1_word_5 (by decide) (fun c1 => ?_) (fun c1 => ?_)
  · refine lv_iconst (v := 1) hx hb dX1_word_12 (by decide) ?_
    refine ztP_thrown C hP hS dX1_word_13 (fun u2 H locs hu2 hP hS => ?_)
    refine lv_aload_n hx hb dX1_word_16 rfl (lv_at hl 0 rfl) ?_
    refine ztG_thrown C hP dX1_word_17 ?_
    refine lv_if_ne (tgt := 30) hx hb dX1_word_20 (by decide) (fun _ => ?_) (fun q => absurd (show (1 : Int32) = 0 by subst hu2; exact q) (by decide))
    exact zt_vret C hr hlk hP hS (by subst hu2; exact (if_pos c1).trans (rfl)) dX1_word_30
  · refine lv_iconst (v := 0) hx hb dX1_word_8 (by decide) ?_
    refine lv_goto (tgt := 13) hx hb dX1_word_9 (by decide) ?_
    refine ztP_thrown C hP hS dX1_word_13 (fun u3 H locs hu3 hP hS => ?_)
    refine lv_aload_n hx hb dX1_word_16 rfl (lv_at hl 0 rfl) ?_
    refine ztG_thrown C hP dX1_word_17 ?_
    refine lv_if_ne (tgt := 30) hx hb dX1_word_20 (by decide) (fun q => absurd (show ¬ ((0 : Int32) = 0) by subst hu3; exact q) (by decide)) (fun _ => ?_)
    refine lv_aload_n hx hb dX1_word_23 rfl (lv_at hl 0 rfl) ?_
    refine ztG_words C hP dX1_word_24 ?_
    refine lv_iload_n hx hb dX1_word_27 rfl (lv_at hl 1 rfl) ?_
    refine lv_iload_n hx hb dX1_word_28 rfl (lv_at hl 2 rfl) ?_
    refine ztS_words C hP hS (by first | with_reducible assumption | with_reducible exact zt_in (by with_reducible assumption) | with_reducible exact zt_inb (by with_reducible assumption) (by with_reducible assumption)) dX1_word_29 (fun u4 H locs hu4 hP hS => ?_)
    exact zt_vret C hr hlk hP hS (by subst hu3 hu4; exact (if_neg c1).trans (rfl)) dX1_word_30
def zt_boot (u : Zts) (a1 a2 a3 a4 : Int32) : Zts :=
  let u1 := zts_thrown u 0
  let u2 := zts_pc u1 a1
  let u3 := zts_sp u2 a2
  let u4 := zts_lv u3 a3
  let u5 := zts_cpp u4 a4
  if (zt_isWord (ztg_sp u5)) = 0 then (
    let u7 := zts_top u5 0
    let u8 := zts_state u7 0
    let u9 := zts_cycles u8 0
    let u10 := zts_done u9 0
    u10)
  else (
    let u11 := zts_top u5 (ztg_words u5 (ztg_sp u5).toNatClampNeg)
    let u12 := zts_state u11 0
    let u13 := zts_cycles u12 0
    let u14 := zts_done u13 0
    u14)
set_option maxHeartbeats 4000000 in
set_option maxRecDepth 100000 in
theorem ztM_boot (l : Launch) (k : Ztk) (Dk : ZtD k) (u : Zts) (a1 a2 a3 a4 : Int32) : Met l yX1_boot (.code yX1_boot cX1_boot 5 none :: zwT) (zrm 1) (ZtB k [.ref (zta_this k), .int a1, .int a2, .int a3, .int a4] u) (ZtQ k none (zt_boot u a1 a2 a3 a4)) 0 0 (ZtA k) := by
  refine ztE_in (by decide) rfl (Nat.le_of_ble_eq_true rfl) Dk ?_
  intro p e s m below meth c ls C hr hlk hP hl
  have hx := C.1.1
  have hb := C.1.2.1
  have hl : lv_has ls 5 [(0, .ref (zta_this k)), (1, .int a1), (2, .int a2), (3, .int a3), (4, .int a4)] := hl
  have hS : va_S (ZtA k) s.heap s.heap [] := va_S.rf
  refine lv_aload_n hx hb dX1_boot_0 rfl (lv_at hl 0 rfl) ?_
  refine lv_iconst (v := 0) hx hb dX1_boot_1 (by decide) ?_
  refine ztP_thrown C hP hS dX1_boot_2 (fun u1 H locs hu1 hP hS => ?_)
  refine lv_aload_n hx hb dX1_boot_5 rfl (lv_at hl 0 rfl) ?_
  refine lv_iload_n hx hb dX1_boot_6 rfl (lv_at hl 1 rfl) ?_
  refine ztP_pc C hP hS dX1_boot_7 (fun u2 H locs hu2 hP hS => ?_)
  refine lv_aload_n hx hb dX1_boot_10 rfl (lv_at hl 0 rfl) ?_
  refine lv_iload_n hx hb dX1_boot_11 rfl (lv_at hl 2 rfl) ?_
  refine ztP_sp C hP hS dX1_boot_12 (fun u3 H locs hu3 hP hS => ?_)
  refine lv_aload_n hx hb dX1_boot_15 rfl (lv_at hl 0 rfl) ?_
  refine lv_iload_n hx hb dX1_boot_16 rfl (lv_at hl 3 rfl) ?_
  refine ztP_lv C hP hS dX1_boot_17 (fun u4 H locs hu4 hP hS => ?_)
  refine lv_aload_n hx hb dX1_boot_20 rfl (lv_at hl 0 rfl) ?_
  refine lv_iload hx hb dX1_boot_21 (lv_at hl 4 rfl) ?_
  refine ztP_cpp C hP hS dX1_boot_23 (fun u5 H locs hu5 hP hS => ?_)
  refine lv_aload_n hx hb dX1_boot_26 rfl (lv_at hl 0 rfl) ?_
  refine lv_aload_n hx hb dX1_boot_27 rfl (lv_at hl 0 rfl) ?_
  refine ztG_sp C hP dX1_boot_28 ?_
  refine ztK_isWord C hl.1 (by decide) (Nat.le_of_ble_eq_true rfl) dX1_boot_31 ?_
  refine lv_if_eq (tgt := 49) hx hb dX1_boot_34 (by decide) (fun c6 => ?_) (fun c6 => ?_)
  · refine lv_iconst (v := 0) hx hb dX1_boot_49 (by decide) ?_
    refine ztP_top C hP hS dX1_boot_50 (fun u7 H locs hu7 hP hS => ?_)
    refine lv_aload_n hx hb dX1_boot_53 rfl (lv_at hl 0 rfl) ?_
    refine lv_iconst (v := 0) hx hb dX1_boot_54 (by decide) ?_
    refine ztP_state C hP hS dX1_boot_55 (fun u8 H locs hu8 hP hS => ?_)
    refine lv_aload_n hx hb dX1_boot_58 rfl (lv_at hl 0 rfl) ?_
    refine lv_iconst (v := 0) hx hb dX1_boot_59 (by decide) ?_
    refine ztP_cycles C hP hS dX1_boot_60 (fun u9 H locs hu9 hP hS => ?_)
    refine lv_aload_n hx hb dX1_boot_63 rfl (lv_at hl 0 rfl) ?_
    refine lv_iconst (v := 0) hx hb dX1_boot_64 (by decide) ?_
    refine ztP_done C hP hS dX1_boot_65 (fun u10 H locs hu10 hP hS => ?_)
    exact zt_vret C hr hlk hP hS (by subst hu1 hu2 hu3 hu4 hu5 hu7 hu8 hu9 hu10; exact (if_pos c6).trans (rfl)) dX1_boot_68
  · refine lv_aload_n hx hb dX1_boot_37 rfl (lv_at hl 0 rfl) ?_
    refine ztG_words C hP dX1_boot_38 ?_
    refine lv_aload_n hx hb dX1_boot_41 rfl (lv_at hl 0 rfl) ?_
    refine ztG_sp C hP dX1_boot_42 ?_
    refine ztL_words C hP (by first | with_reducible assumption | with_reducible exact zt_in (by with_reducible assumption) | with_reducible exact zt_inb (by with_reducible assumption) (by with_reducible assumption)) dX1_boot_45 ?_
    refine lv_goto (tgt := 50) hx hb dX1_boot_46 (by decide) ?_
    refine ztP_top C hP hS dX1_boot_50 (fun u11 H locs hu11 hP hS => ?_)
    refine lv_aload_n hx hb dX1_boot_53 rfl (lv_at hl 0 rfl) ?_
    refine lv_iconst (v := 0) hx hb dX1_boot_54 (by decide) ?_
    refine ztP_state C hP hS dX1_boot_55 (fun u12 H locs hu12 hP hS => ?_)
    refine lv_aload_n hx hb dX1_boot_58 rfl (lv_at hl 0 rfl) ?_
    refine lv_iconst (v := 0) hx hb dX1_boot_59 (by decide) ?_
    refine ztP_cycles C hP hS dX1_boot_60 (fun u13 H locs hu13 hP hS => ?_)
    refine lv_aload_n hx hb dX1_boot_63 rfl (lv_at hl 0 rfl) ?_
    refine lv_iconst (v := 0) hx hb dX1_boot_64 (by decide) ?_
    refine ztP_done C hP hS dX1_boot_65 (fun u14 H locs hu14 hP hS => ?_)
    exact zt_vret C hr hlk hP hS (by subst hu1 hu2 hu3 hu4 hu5 hu11 hu12 hu13 hu14; exact (if_neg c6).trans (rfl)) dX1_boot_68
def zt_look (u : Zts) (a1 : Int32) : Int32 × Zts :=
  if (zt_isWord a1) = 0 then (
    let u2 := zts_thrown u 1
    (0, u2))
  else (
    let u3 := zts_thrown u 0
    (ztg_words u3 a1.toNatClampNeg, u3))
set_option maxHeartbeats 4000000 in
set_option maxRecDepth 100000 in
theorem ztM_look (l : Launch) (k : Ztk) (Dk : ZtD k) (u : Zts) (a1 : Int32) : Met l yX1_look (.code yX1_look cX1_look 2 (some .int) :: zwT) (zrm 1) (ZtB k [.ref (zta_this k), .int a1] u) (ZtQ k (some (.int (zt_look u a1).1)) (zt_look u a1).2) 0 0 (ZtA k) := by
  refine ztE_in (by decide) rfl (Nat.le_of_ble_eq_true rfl) Dk ?_
  intro p e s m below meth c ls C hr hlk hP hl
  have hx := C.1.1
  have hb := C.1.2.1
  have hl : lv_has ls 2 [(0, .ref (zta_this k)), (1, .int a1)] := hl
  have hS : va_S (ZtA k) s.heap s.heap [] := va_S.rf
  refine lv_aload_n hx hb dX1_look_0 rfl (lv_at hl 0 rfl) ?_
  refine lv_iload_n hx hb dX1_look_1 rfl (lv_at hl 1 rfl) ?_
  refine ztK_isWord C hl.1 (by decide) (Nat.le_of_ble_eq_true rfl) dX1_look_2 ?_
  refine lv_if_eq (tgt := 12) hx hb dX1_look_5 (by decide) (fun c1 => ?_) (fun c1 => ?_)
  · refine lv_iconst (v := 1) hx hb dX1_look_12 (by decide) ?_
    refine ztP_thrown C hP hS dX1_look_13 (fun u2 H locs hu2 hP hS => ?_)
    refine lv_aload_n hx hb dX1_look_16 rfl (lv_at hl 0 rfl) ?_
    refine ztG_thrown C hP dX1_look_17 ?_
    refine lv_if_ne (tgt := 32) hx hb dX1_look_20 (by decide) (fun _ => ?_) (fun q => absurd (show (1 : Int32) = 0 by subst hu2; exact q) (by decide))
    refine lv_iconst (v := 0) hx hb dX1_look_32 (by decide) ?_
    exact zt_iret C hr hlk hP hS (by subst hu2; exact (if_pos c1).trans (rfl)) dX1_look_33
  · refine lv_iconst (v := 0) hx hb dX1_look_8 (by decide) ?_
    refine lv_goto (tgt := 13) hx hb dX1_look_9 (by decide) ?_
    refine ztP_thrown C hP hS dX1_look_13 (fun u3 H locs hu3 hP hS => ?_)
    refine lv_aload_n hx hb dX1_look_16 rfl (lv_at hl 0 rfl) ?_
    refine ztG_thrown C hP dX1_look_17 ?_
    refine lv_if_ne (tgt := 32) hx hb dX1_look_20 (by decide) (fun q => absurd (show ¬ ((0 : Int32) = 0) by subst hu3; exact q) (by decide)) (fun _ => ?_)
    refine lv_aload_n hx hb dX1_look_23 rfl (lv_at hl 0 rfl) ?_
    refine ztG_words C hP dX1_look_24 ?_
    refine lv_iload_n hx hb dX1_look_27 rfl (lv_at hl 1 rfl) ?_
    refine ztL_words C hP (by first | with_reducible assumption | with_reducible exact zt_in (by with_reducible assumption) | with_reducible exact zt_inb (by with_reducible assumption) (by with_reducible assumption)) dX1_look_28 ?_
    refine lv_goto (tgt := 33) hx hb dX1_look_29 (by decide) ?_
    exact zt_iret C hr hlk hP hS (by subst hu3; exact (if_neg c1).trans (rfl)) dX1_look_33
def zt_register (u : Zts) (a1 : Int32) : Int32 × Zts :=
  if a1 < 0 then (
    let u2 := zts_thrown u 1
    if a1 = 0 then (
      (ztg_pc u2, u2))
    else (
      if a1 = 1 then (
        (ztg_sp u2, u2))
      else (
        if a1 = 2 then (
          (ztg_lv u2, u2))
        else (
          if a1 = 3 then (
            (ztg_cpp u2, u2))
          else (
            if a1 = 4 then (
              (ztg_top u2, u2))
            else (
              if a1 = 5 then (
                (ztg_state u2, u2))
              else (
                if a1 = 6 then (
                  (ztg_cycles u2, u2))
                else (
                  if a1 = 7 then (
                    (ztg_done u2, u2))
                  else (
                    (0, u2))))))))))
  else (
    if a1 ≤ 7 then (
      let u12 := zts_thrown u 0
      if a1 = 0 then (
        (ztg_pc u12, u12))
      else (
        if a1 = 1 then (
          (ztg_sp u12, u12))
        else (
          if a1 = 2 then (
            (ztg_lv u12, u12))
          else (
            if a1 = 3 then (
              (ztg_cpp u12, u12))
            else (
              if a1 = 4 then (
                (ztg_top u12, u12))
              else (
                if a1 = 5 then (
                  (ztg_state u12, u12))
                else (
                  if a1 = 6 then (
                    (ztg_cycles u12, u12))
                  else (
                    if a1 = 7 then (
                      (ztg_done u12, u12))
                    else (
                      (0, u12))))))))))
    else (
      let u21 := zts_thrown u 1
      if a1 = 0 then (
        (ztg_pc u21, u21))
      else (
        if a1 = 1 then (
          (ztg_sp u21, u21))
        else (
          if a1 = 2 then (
            (ztg_lv u21, u21))
          else (
            if a1 = 3 then (
              (ztg_cpp u21, u21))
            else (
              if a1 = 4 then (
                (ztg_top u21, u21))
              else (
                if a1 = 5 then (
                  (ztg_state u21, u21))
                else (
                  if a1 = 6 then (
                    (ztg_cycles u21, u21))
                  else (
                    if a1 = 7 then (
                      (ztg_done u21, u21))
                    else (
                      (0, u21)))))))))))
set_option maxHeartbeats 4000000 in
set_option maxRecDepth 100000 in
theorem ztM_register (l : Launch) (k : Ztk) (Dk : ZtD k) (u : Zts) (a1 : Int32) : Met l yX1_register (.code yX1_register cX1_register 2 (some .int) :: zwT) (zrm 0) (ZtB k [.ref (zta_this k), .int a1] u) (ZtQ k (some (.int (zt_register u a1).1)) (zt_register u a1).2) 0 0 (ZtA k) := by
  refine ztE_in (by decide) rfl (Nat.le_of_ble_eq_true rfl) Dk ?_
  intro p e s m below meth c ls C hr hlk hP hl
  have hx := C.1.1
  have hb := C.1.2.1
  have hl : lv_has ls 2 [(0, .ref (zta_this k)), (1, .int a1)] := hl
  have hS : va_S (ZtA k) s.heap s.heap [] := va_S.rf
  refine lv_aload_n hx hb dX1_register_0 rfl (lv_at hl 0 rfl) ?_
  refine lv_iload_n hx hb dX1_register_1 rfl (lv_at hl 1 rfl) ?_
  refine lv_if_lt (tgt := 11) hx hb dX1_register_2 (by decide) (fun c1 => ?_) (fun c1 => ?_)
  · refine lv_iconst (v := 1) hx hb dX1_register_11 (by decide) ?_
    refine lv_goto (tgt := 16) hx hb dX1_register_12 (by decide) ?_
    refine ztP_thrown C hP hS dX1_register_16 (fun u2 H locs hu2 hP hS => ?_)
    refine lv_iload_n hx hb dX1_register_19 rfl (lv_at hl 1 rfl) ?_
    by_cases c3 : a1 = 0
    · refine lv_tableIn (off := 48) (tgt := 68) hx hb dX1_register_20 (by rw [c3]; decide) (by rw [c3]; decide) (by rw [c3]; decide) (by decide) ?_
      refine lv_aload_n hx hb dX1_register_68 rfl (lv_at hl 0 rfl) ?_
      refine ztG_pc C hP dX1_register_69 ?_
      exact zt_iret C hr hlk hP hS (by subst hu2; exact (if_pos c1).trans ((if_pos c3).trans (rfl))) dX1_register_72
    · skip
      by_cases c4 : a1 = 1
      · refine lv_tableIn (off := 53) (tgt := 73) hx hb dX1_register_20 (by rw [c4]; decide) (by rw [c4]; decide) (by rw [c4]; decide) (by decide) ?_
        refine lv_aload_n hx hb dX1_register_73 rfl (lv_at hl 0 rfl) ?_
        refine ztG_sp C hP dX1_register_74 ?_
        exact zt_iret C hr hlk hP hS (by subst hu2; exact (if_pos c1).trans ((if_neg c3).trans ((if_pos c4).trans (rfl)))) dX1_register_77
      · skip
        by_cases c5 : a1 = 2
        · refine lv_tableIn (off := 58) (tgt := 78) hx hb dX1_register_20 (by rw [c5]; decide) (by rw [c5]; decide) (by rw [c5]; decide) (by decide) ?_
          refine lv_aload_n hx hb dX1_register_78 rfl (lv_at hl 0 rfl) ?_
          refine ztG_lv C hP dX1_register_79 ?_
          exact zt_iret C hr hlk hP hS (by subst hu2; exact (if_pos c1).trans ((if_neg c3).trans ((if_neg c4).trans ((if_pos c5).trans (rfl))))) dX1_register_82
        · skip
          by_cases c6 : a1 = 3
          · refine lv_tableIn (off := 63) (tgt := 83) hx hb dX1_register_20 (by rw [c6]; decide) (by rw [c6]; decide) (by rw [c6]; decide) (by decide) ?_
            refine lv_aload_n hx hb dX1_register_83 rfl (lv_at hl 0 rfl) ?_
            refine ztG_cpp C hP dX1_register_84 ?_
            exact zt_iret C hr hlk hP hS (by subst hu2; exact (if_pos c1).trans ((if_neg c3).trans ((if_neg c4).trans ((if_neg c5).trans ((if_pos c6).trans (rfl)))))) dX1_register_87
          · skip
            by_cases c7 : a1 = 4
            · refine lv_tableIn (off := 68) (tgt := 88) hx hb dX1_register_20 (by rw [c7]; decide) (by rw [c7]; decide) (by rw [c7]; decide) (by decide) ?_
              refine lv_aload_n hx hb dX1_register_88 rfl (lv_at hl 0 rfl) ?_
              refine ztG_top C hP dX1_register_89 ?_
              exact zt_iret C hr hlk hP hS (by subst hu2; exact (if_pos c1).trans ((if_neg c3).trans ((if_neg c4).trans ((if_neg c5).trans ((if_neg c6).trans ((if_pos c7).trans (rfl))))))) dX1_register_92
            · skip
              by_cases c8 : a1 = 5
              · refine lv_tableIn (off := 73) (tgt := 93) hx hb dX1_register_20 (by rw [c8]; decide) (by rw [c8]; decide) (by rw [c8]; decide) (by decide) ?_
                refine lv_aload_n hx hb dX1_register_93 rfl (lv_at hl 0 rfl) ?_
                refine ztG_state C hP dX1_register_94 ?_
                exact zt_iret C hr hlk hP hS (by subst hu2; exact (if_pos c1).trans ((if_neg c3).trans ((if_neg c4).trans ((if_neg c5).trans ((if_neg c6).trans ((if_neg c7).trans ((if_pos c8).trans (rfl)))))))) dX1_register_97
              · skip
                by_cases c9 : a1 = 6
                · refine lv_tableIn (off := 78) (tgt := 98) hx hb dX1_register_20 (by rw [c9]; decide) (by rw [c9]; decide) (by rw [c9]; decide) (by decide) ?_
                  refine lv_aload_n hx hb dX1_register_98 rfl (lv_at hl 0 rfl) ?_
                  refine ztG_cycles C hP dX1_register_99 ?_
                  exact zt_iret C hr hlk hP hS (by subst hu2; exact (if_pos c1).trans ((if_neg c3).trans ((if_neg c4).trans ((if_neg c5).trans ((if_neg c6).trans ((if_neg c7).trans ((if_neg c8).trans ((if_pos c9).trans (rfl))))))))) dX1_register_102
                · skip
                  by_cases c10 : a1 = 7
                  · refine lv_tableIn (off := 83) (tgt := 103) hx hb dX1_register_20 (by rw [c10]; decide) (by rw [c10]; decide) (by rw [c10]; decide) (by decide) ?_
                    refine lv_aload_n hx hb dX1_register_103 rfl (lv_at hl 0 rfl) ?_
                    refine ztG_done C hP dX1_register_104 ?_
                    exact zt_iret C hr hlk hP hS (by subst hu2; exact (if_pos c1).trans ((if_neg c3).trans ((if_neg c4).trans ((if_neg c5).trans ((if_neg c6).trans ((if_neg c7).trans ((if_neg c8).trans ((if_neg c9).trans ((if_pos c10).trans (rfl)))))))))) dX1_register_107
                  · skip
                    refine lv_tableOut (tgt := 108) hx hb dX1_register_20 (by have qc3 := lv_neT c3 (show (0 : Int32).toInt = 0 from rfl); have qc4 := lv_neT c4 (show (1 : Int32).toInt = 1 from rfl); have qc5 := lv_neT c5 (show (2 : Int32).toInt = 2 from rfl); have qc6 := lv_neT c6 (show (3 : Int32).toInt = 3 from rfl); have qc7 := lv_neT c7 (show (4 : Int32).toInt = 4 from rfl); have qc8 := lv_neT c8 (show (5 : Int32).toInt = 5 from rfl); have qc9 := lv_neT c9 (show (6 : Int32).toInt = 6 from rfl); have qc10 := lv_neT c10 (show (7 : Int32).toInt = 7 from rfl); omega) (by decide) ?_
                    refine lv_iconst (v := 0) hx hb dX1_register_108 (by decide) ?_
                    exact zt_iret C hr hlk hP hS (by subst hu2; exact (if_pos c1).trans ((if_neg c3).trans ((if_neg c4).trans ((if_neg c5).trans ((if_neg c6).trans ((if_neg c7).trans ((if_neg c8).trans ((if_neg c9).trans ((if_neg c10).trans (rfl)))))))))) dX1_register_109
  · refine lv_iload_n hx hb dX1_register_5 rfl (lv_at hl 1 rfl) ?_
    refine lv_bipush (v := 7) hx hb dX1_register_6 (by decide) ?_
    refine lv_icmp_le (tgt := 15) hx hb dX1_register_8 (by decide) (fun c11 => ?_) (fun c11 => ?_)
    · refine lv_iconst (v := 0) hx hb dX1_register_15 (by decide) ?_
      refine ztP_thrown C hP hS dX1_register_16 (fun u12 H locs hu12 hP hS => ?_)
      refine lv_iload_n hx hb dX1_register_19 rfl (lv_at hl 1 rfl) ?_
      by_cases c13 : a1 = 0
      · refine lv_tableIn (off := 48) (tgt := 68) hx hb dX1_register_20 (by rw [c13]; decide) (by rw [c13]; decide) (by rw [c13]; decide) (by decide) ?_
        refine lv_aload_n hx hb dX1_register_68 rfl (lv_at hl 0 rfl) ?_
        refine ztG_pc C hP dX1_register_69 ?_
        exact zt_iret C hr hlk hP hS (by subst hu12; exact (if_neg c1).trans ((if_pos c11).trans ((if_pos c13).trans (rfl)))) dX1_register_72
      · skip
        by_cases c14 : a1 = 1
        · refine lv_tableIn (off := 53) (tgt := 73) hx hb dX1_register_20 (by rw [c14]; decide) (by rw [c14]; decide) (by rw [c14]; decide) (by decide) ?_
          refine lv_aload_n hx hb dX1_register_73 rfl (lv_at hl 0 rfl) ?_
          refine ztG_sp C hP dX1_register_74 ?_
          exact zt_iret C hr hlk hP hS (by subst hu12; exact (if_neg c1).trans ((if_pos c11).trans ((if_neg c13).trans ((if_pos c14).trans (rfl))))) dX1_register_77
        · skip
          by_cases c15 : a1 = 2
          · refine lv_tableIn (off := 58) (tgt := 78) hx hb dX1_register_20 (by rw [c15]; decide) (by rw [c15]; decide) (by rw [c15]; decide) (by decide) ?_
            refine lv_aload_n hx hb dX1_register_78 rfl (lv_at hl 0 rfl) ?_
            refine ztG_lv C hP dX1_register_79 ?_
            exact zt_iret C hr hlk hP hS (by subst hu12; exact (if_neg c1).trans ((if_pos c11).trans ((if_neg c13).trans ((if_neg c14).trans ((if_pos c15).trans (rfl)))))) dX1_register_82
          · skip
            by_cases c16 : a1 = 3
            · refine lv_tableIn (off := 63) (tgt := 83) hx hb dX1_register_20 (by rw [c16]; decide) (by rw [c16]; decide) (by rw [c16]; decide) (by decide) ?_
              refine lv_aload_n hx hb dX1_register_83 rfl (lv_at hl 0 rfl) ?_
              refine ztG_cpp C hP dX1_register_84 ?_
              exact zt_iret C hr hlk hP hS (by subst hu12; exact (if_neg c1).trans ((if_pos c11).trans ((if_neg c13).trans ((if_neg c14).trans ((if_neg c15).trans ((if_pos c16).trans (rfl))))))) dX1_register_87
            · skip
              by_cases c17 : a1 = 4
              · refine lv_tableIn (off := 68) (tgt := 88) hx hb dX1_register_20 (by rw [c17]; decide) (by rw [c17]; decide) (by rw [c17]; decide) (by decide) ?_
                refine lv_aload_n hx hb dX1_register_88 rfl (lv_at hl 0 rfl) ?_
                refine ztG_top C hP dX1_register_89 ?_
                exact zt_iret C hr hlk hP hS (by subst hu12; exact (if_neg c1).trans ((if_pos c11).trans ((if_neg c13).trans ((if_neg c14).trans ((if_neg c15).trans ((if_neg c16).trans ((if_pos c17).trans (rfl)))))))) dX1_register_92
              · skip
                by_cases c18 : a1 = 5
                · refine lv_tableIn (off := 73) (tgt := 93) hx hb dX1_register_20 (by rw [c18]; decide) (by rw [c18]; decide) (by rw [c18]; decide) (by decide) ?_
                  refine lv_aload_n hx hb dX1_register_93 rfl (lv_at hl 0 rfl) ?_
                  refine ztG_state C hP dX1_register_94 ?_
                  exact zt_iret C hr hlk hP hS (by subst hu12; exact (if_neg c1).trans ((if_pos c11).trans ((if_neg c13).trans ((if_neg c14).trans ((if_neg c15).trans ((if_neg c16).trans ((if_neg c17).trans ((if_pos c18).trans (rfl))))))))) dX1_register_97
                · skip
                  by_cases c19 : a1 = 6
                  · refine lv_tableIn (off := 78) (tgt := 98) hx hb dX1_register_20 (by rw [c19]; decide) (by rw [c19]; decide) (by rw [c19]; decide) (by decide) ?_
                    refine lv_aload_n hx hb dX1_register_98 rfl (lv_at hl 0 rfl) ?_
                    refine ztG_cycles C hP dX1_register_99 ?_
                    exact zt_iret C hr hlk hP hS (by subst hu12; exact (if_neg c1).trans ((if_pos c11).trans ((if_neg c13).trans ((if_neg c14).trans ((if_neg c15).trans ((if_neg c16).trans ((if_neg c17).trans ((if_neg c18).trans ((if_pos c19).trans (rfl)))))))))) dX1_register_102
                  · skip
                    by_cases c20 : a1 = 7
                    · refine lv_tableIn (off := 83) (tgt := 103) hx hb dX1_register_20 (by rw [c20]; decide) (by rw [c20]; decide) (by rw [c20]; decide) (by decide) ?_
                      refine lv_aload_n hx hb dX1_register_103 rfl (lv_at hl 0 rfl) ?_
                      refine ztG_done C hP dX1_register_104 ?_
                      exact zt_iret C hr hlk hP hS (by subst hu12; exact (if_neg c1).trans ((if_pos c11).trans ((if_neg c13).trans ((if_neg c14).trans ((if_neg c15).trans ((if_neg c16).trans ((if_neg c17).trans ((if_neg c18).trans ((if_neg c19).trans ((if_pos c20).trans (rfl))))))))))) dX1_register_107
                    · skip
                      refine lv_tableOut (tgt := 108) hx hb dX1_register_20 (by have qc13 := lv_neT c13 (show (0 : Int32).toInt = 0 from rfl); have qc14 := lv_neT c14 (show (1 : Int32).toInt = 1 from rfl); have qc15 := lv_neT c15 (show (2 : Int32).toInt = 2 from rfl); have qc16 := lv_neT c16 (show (3 : Int32).toInt = 3 from rfl); have qc17 := lv_neT c17 (show (4 : Int32).toInt = 4 from rfl); have qc18 := lv_neT c18 (show (5 : Int32).toInt = 5 from rfl); have qc19 := lv_neT c19 (show (6 : Int32).toInt = 6 from rfl); have qc20 := lv_neT c20 (show (7 : Int32).toInt = 7 from rfl); omega) (by decide) ?_
                      refine lv_iconst (v := 0) hx hb dX1_register_108 (by decide) ?_
                      exact zt_iret C hr hlk hP hS (by subst hu12; exact (if_neg c1).trans ((if_pos c11).trans ((if_neg c13).trans ((if_neg c14).trans ((if_neg c15).trans ((if_neg c16).trans ((if_neg c17).trans ((if_neg c18).trans ((if_neg c19).trans ((if_neg c20).trans (rfl))))))))))) dX1_register_109
    · refine lv_iconst (v := 1) hx hb dX1_register_11 (by decide) ?_
      refine lv_goto (tgt := 16) hx hb dX1_register_12 (by decide) ?_
      refine ztP_thrown C hP hS dX1_register_16 (fun u21 H locs hu21 hP hS => ?_)
      refine lv_iload_n hx hb dX1_register_19 rfl (lv_at hl 1 rfl) ?_
      by_cases c22 : a1 = 0
      · refine lv_tableIn (off := 48) (tgt := 68) hx hb dX1_register_20 (by rw [c22]; decide) (by rw [c22]; decide) (by rw [c22]; decide) (by decide) ?_
        refine lv_aload_n hx hb dX1_register_68 rfl (lv_at hl 0 rfl) ?_
        refine ztG_pc C hP dX1_register_69 ?_
        exact zt_iret C hr hlk hP hS (by subst hu21; exact (if_neg c1).trans ((if_neg c11).trans ((if_pos c22).trans (rfl)))) dX1_register_72
      · skip
        by_cases c23 : a1 = 1
        · refine lv_tableIn (off := 53) (tgt := 73) hx hb dX1_register_20 (by rw [c23]; decide) (by rw [c23]; decide) (by rw [c23]; decide) (by decide) ?_
          refine lv_aload_n hx hb dX1_register_73 rfl (lv_at hl 0 rfl) ?_
          refine ztG_sp C hP dX1_register_74 ?_
          exact zt_iret C hr hlk hP hS (by subst hu21; exact (if_neg c1).trans ((if_neg c11).trans ((if_neg c22).trans ((if_pos c23).trans (rfl))))) dX1_register_77
        · skip
          by_cases c24 : a1 = 2
          · refine lv_tableIn (off := 58) (tgt := 78) hx hb dX1_register_20 (by rw [c24]; decide) (by rw [c24]; decide) (by rw [c24]; decide) (by decide) ?_
            refine lv_aload_n hx hb dX1_register_78 rfl (lv_at hl 0 rfl) ?_
            refine ztG_lv C hP dX1_register_79 ?_
            exact zt_iret C hr hlk hP hS (by subst hu21; exact (if_neg c1).trans ((if_neg c11).trans ((if_neg c22).trans ((if_neg c23).trans ((if_pos c24).trans (rfl)))))) dX1_register_82
          · skip
            by_cases c25 : a1 = 3
            · refine lv_tableIn (off := 63) (tgt := 83) hx hb dX1_register_20 (by rw [c25]; decide) (by rw [c25]; decide) (by rw [c25]; decide) (by decide) ?_
              refine lv_aload_n hx hb dX1_register_83 rfl (lv_at hl 0 rfl) ?_
              refine ztG_cpp C hP dX1_register_84 ?_
              exact zt_iret C hr hlk hP hS (by subst hu21; exact (if_neg c1).trans ((if_neg c11).trans ((if_neg c22).trans ((if_neg c23).trans ((if_neg c24).trans ((if_pos c25).trans (rfl))))))) dX1_register_87
            · skip
              by_cases c26 : a1 = 4
              · refine lv_tableIn (off := 68) (tgt := 88) hx hb dX1_register_20 (by rw [c26]; decide) (by rw [c26]; decide) (by rw [c26]; decide) (by decide) ?_
                refine lv_aload_n hx hb dX1_register_88 rfl (lv_at hl 0 rfl) ?_
                refine ztG_top C hP dX1_register_89 ?_
                exact zt_iret C hr hlk hP hS (by subst hu21; exact (if_neg c1).trans ((if_neg c11).trans ((if_neg c22).trans ((if_neg c23).trans ((if_neg c24).trans ((if_neg c25).trans ((if_pos c26).trans (rfl)))))))) dX1_register_92
              · skip
                by_cases c27 : a1 = 5
                · refine lv_tableIn (off := 73) (tgt := 93) hx hb dX1_register_20 (by rw [c27]; decide) (by rw [c27]; decide) (by rw [c27]; decide) (by decide) ?_
                  refine lv_aload_n hx hb dX1_register_93 rfl (lv_at hl 0 rfl) ?_
                  refine ztG_state C hP dX1_register_94 ?_
                  exact zt_iret C hr hlk hP hS (by subst hu21; exact (if_neg c1).trans ((if_neg c11).trans ((if_neg c22).trans ((if_neg c23).trans ((if_neg c24).trans ((if_neg c25).trans ((if_neg c26).trans ((if_pos c27).trans (rfl))))))))) dX1_register_97
                · skip
                  by_cases c28 : a1 = 6
                  · refine lv_tableIn (off := 78) (tgt := 98) hx hb dX1_register_20 (by rw [c28]; decide) (by rw [c28]; decide) (by rw [c28]; decide) (by decide) ?_
                    refine lv_aload_n hx hb dX1_register_98 rfl (lv_at hl 0 rfl) ?_
                    refine ztG_cycles C hP dX1_register_99 ?_
                    exact zt_iret C hr hlk hP hS (by subst hu21; exact (if_neg c1).trans ((if_neg c11).trans ((if_neg c22).trans ((if_neg c23).trans ((if_neg c24).trans ((if_neg c25).trans ((if_neg c26).trans ((if_neg c27).trans ((if_pos c28).trans (rfl)))))))))) dX1_register_102
                  · skip
                    by_cases c29 : a1 = 7
                    · refine lv_tableIn (off := 83) (tgt := 103) hx hb dX1_register_20 (by rw [c29]; decide) (by rw [c29]; decide) (by rw [c29]; decide) (by decide) ?_
                      refine lv_aload_n hx hb dX1_register_103 rfl (lv_at hl 0 rfl) ?_
                      refine ztG_done C hP dX1_register_104 ?_
                      exact zt_iret C hr hlk hP hS (by subst hu21; exact (if_neg c1).trans ((if_neg c11).trans ((if_neg c22).trans ((if_neg c23).trans ((if_neg c24).trans ((if_neg c25).trans ((if_neg c26).trans ((if_neg c27).trans ((if_neg c28).trans ((if_pos c29).trans (rfl))))))))))) dX1_register_107
                    · skip
                      refine lv_tableOut (tgt := 108) hx hb dX1_register_20 (by have qc22 := lv_neT c22 (show (0 : Int32).toInt = 0 from rfl); have qc23 := lv_neT c23 (show (1 : Int32).toInt = 1 from rfl); have qc24 := lv_neT c24 (show (2 : Int32).toInt = 2 from rfl); have qc25 := lv_neT c25 (show (3 : Int32).toInt = 3 from rfl); have qc26 := lv_neT c26 (show (4 : Int32).toInt = 4 from rfl); have qc27 := lv_neT c27 (show (5 : Int32).toInt = 5 from rfl); have qc28 := lv_neT c28 (show (6 : Int32).toInt = 6 from rfl); have qc29 := lv_neT c29 (show (7 : Int32).toInt = 7 from rfl); omega) (by decide) ?_
                      refine lv_iconst (v := 0) hx hb dX1_register_108 (by decide) ?_
                      exact zt_iret C hr hlk hP hS (by subst hu21; exact (if_neg c1).trans ((if_neg c11).trans ((if_neg c22).trans ((if_neg c23).trans ((if_neg c24).trans ((if_neg c25).trans ((if_neg c26).trans ((if_neg c27).trans ((if_neg c28).trans ((if_neg c29).trans (rfl))))))))))) dX1_register_109
def zt_thrown (u : Zts) : Int32 :=
  ztg_thrown u
set_option maxHeartbeats 4000000 in
set_option maxRecDepth 100000 in
theorem ztM_thrown (l : Launch) (k : Ztk) (Dk : ZtD k) (u : Zts) : Met l yX1_thrown (.code yX1_thrown cX1_thrown 1 (some .int) :: zwT) (zrm 0) (ZtB k [.ref (zta_this k)] u) (QcRead (zt_thrown u )) 0 0 (fun _ => False) := by
  refine ztE_inR (by decide) rfl (Nat.le_of_ble_eq_true rfl) Dk ?_
  intro p e s m below meth c ls C hr hlk hP hl
  have hx := C.1.1
  have hb := C.1.2.1
  have hl : lv_has ls 1 [(0, .ref (zta_this k))] := hl
  refine lv_aload_n hx hb dX1_thrown_0 rfl (lv_at hl 0 rfl) ?_
  refine ztG_thrown C hP dX1_thrown_1 ?_
  exact zt_rret C hr rfl hlk (by exact rfl) dX1_thrown_4
end
section

theorem zt_G0 (u : Zts) : ZtG (ztg_words u) 0 (zts_writes u 0) := ⟨0, Nat.le_refl 0, rfl, fun i h => absurd h (Nat.not_lt_zero i), rfl⟩
/-- all noted writes undone -/
def zt_undone (u : Zts) : Zts := zts_words (zts_writes u 0) (zundo (ztg_places u) (ztg_before u) (ztg_writes u).toNatClampNeg (ztg_words u))
theorem zts_writes_self {u : Zts} {x : Int32} (h : ztg_writes u = x) : zts_writes u x = u := by subst h; rfl
theorem zt_c508 {x : Int32} {j : Nat} (a : ¬ x < 0) (b : ¬ 508 < x) (h : j < 4) : vp_in (x + nI j) 512 := by
  obtain ⟨q, hq, rfl⟩ := nI_of a
  have hb : q ≤ 508 := Nat.le_of_not_lt (fun g => b (nI_lt (a := 508) g hq))
  rw [nI_add]
  exact vp_in_nI (by omega) (by decide)
section
variable {p : Program} {l : Launch} {e : Env} {R : Room} {s : State} {m : MethodId} {args : Array Value} {below : List Frame} {meth : Method} {c : Code} {Q : State → Prop} {nL : Nat} {ls : Array Slot} {k : Ztk} {H0 : Heap}
set_option maxHeartbeats 4000000 in
set_option maxRecDepth 100000 in
theorem zt_loop0 (C : ZtC p s m args c cX1_step nL k) (h0 : ls[0]? = some (.val (.ref (zta_this k)))) : ∀ (j : Nat) (u : Zts) (H : Heap) (locs : List Loc), j ≤ 8 → ztg_writes u = nI j → (∀ i, i < j → ∃ q : Nat, q < 256 ∧ ztg_places u i = nI q) →
    ZtP k u H → va_S (ZtA k) H0 H locs → (∀ (u1 : Zts) (H1 : Heap) (locs1 : List Loc), u1 = zt_undone u → ZtP k u1 H1 → va_S (ZtA k) H0 H1 locs1 → W p l e R s m args below meth c H1 locs1 0 0 Q (F0 m 163 ls [])) → W p l e R s m args below meth c H locs 0 0 Q (F0 m 120 ls []) := by
  have hx := C.1.1
  have hb := C.1.2.1
  intro j
  induction j with
  | zero =>
    intro u H locs hj hw hp hP hS kk
    refine lv_aload_n hx hb dX1_step_120 rfl h0 ?_
    refine ztG_writes C hP dX1_step_121 ?_
    refine lv_if_le (tgt := 163) hx hb dX1_step_124 (by decide) (fun _ => ?_) (fun q => absurd (by rw [hw]; decide) q)
    refine kk u H locs ?_ hP hS
    show u = zts_words (zts_writes u 0) (zundo (ztg_places u) (ztg_before u) (ztg_writes u).toNatClampNeg (ztg_words u))
    rw [show (ztg_writes u).toNatClampNeg = 0 by rw [hw]; rfl, zts_writes_self (x := 0) hw]
    rfl
  | succ j ih =>
    intro u H locs hj hw hp hP hS kk
    refine lv_aload_n hx hb dX1_step_120 rfl h0 ?_
    refine ztG_writes C hP dX1_step_121 ?_
    refine lv_if_le (tgt := 163) hx hb dX1_step_124 (by decide) (fun q => absurd q (by rw [hw]; exact nI_nle (Nat.succ_pos j) (by omega))) (fun _ => ?_)
    refine lv_aload_n hx hb dX1_step_127 rfl h0 ?_
    refine lv_dup hx hb dX1_step_128 rfl ?_
    refine ztG_writes C hP dX1_step_129 ?_
    refine lv_iconst (v := 1) hx hb dX1_step_132 (by decide) ?_
    refine lv_isub hx hb dX1_step_133 ?_
    refine ztP_writes C hP hS dX1_step_134 (fun u1 H locs hu1 hP hS => ?_)
    have e1 : ztg_writes u1 = nI j := by rw [hu1]; show ztg_writes u - 1 = nI j; rw [hw, nI_pred]
    obtain ⟨q, hq, eq⟩ := hp j (Nat.lt_succ_self j)
    have e2 : ztg_places u1 (ztg_writes u1).toNatClampNeg = nI q := by rw [e1, nI_clamp (by omega), hu1]; exact eq
    refine lv_aload_n hx hb dX1_step_137 rfl h0 ?_
    refine ztG_words C hP dX1_step_138 ?_
    refine lv_aload_n hx hb dX1_step_141 rfl h0 ?_
    refine ztG_places C hP dX1_step_142 ?_
    refine lv_aload_n hx hb dX1_step_145 rfl h0 ?_
    refine ztG_writes C hP dX1_step_146 ?_
    refine ztL_places C hP (by rw [e1]; exact vp_in_nI (by omega) (by decide)) dX1_step_149 ?_
    refine lv_aload_n hx hb dX1_step_150 rfl h0 ?_
    refine ztG_before C hP dX1_step_151 ?_
    refine lv_aload_n hx hb dX1_step_154 rfl h0 ?_
    refine ztG_writes C hP dX1_step_155 ?_
    refine ztL_before C hP (by rw [e1]; exact vp_in_nI (by omega) (by decide)) dX1_step_158 ?_
    refine ztS_words C hP hS (by rw [e2]; exact vp_in_nI hq (by decide)) dX1_step_159 (fun u2 H locs hu2 hP hS => ?_)
    refine lv_goto (tgt := 120) hx hb dX1_step_160 (by decide) ?_
    refine ih u2 H locs (by omega) (by rw [hu2]; exact e1) (fun i hi => ?_) hP hS (fun u3 H3 locs3 h3 hP3 hS3 => kk u3 H3 locs3 ?_ hP3 hS3)
    · rw [hu2, hu1]; exact hp i (Nat.lt_succ_of_lt hi)
    · rw [h3]
      have e3 : ztg_writes u2 = nI j := by rw [hu2]; exact e1
      unfold zt_undone
      rw [e3, hw, nI_clamp (by omega), nI_clamp (by omega), hu2, e1, nI_clamp (by omega), hu1]
      rfl
theorem zt_loop {H : Heap} {locs : List Loc} {u : Zts} {w0 : Nat → Int32} (C : ZtC p s m args c cX1_step nL k) (h0 : ls[0]? = some (.val (.ref (zta_this k)))) (hG : ZtG w0 8 u) (hP : ZtP k u H) (hS : va_S (ZtA k) H0 H locs)
    (kk : ∀ (u1 : Zts) (H1 : Heap) (locs1 : List Loc), u1 = zt_undone u → ZtP k u1 H1 → va_S (ZtA k) H0 H1 locs1 → W p l e R s m args below meth c H1 locs1 0 0 Q (F0 m 163 ls [])) : W p l e R s m args below meth c H locs 0 0 Q (F0 m 120 ls []) := by
  obtain ⟨j, h1, h2, h3, -⟩ := hG
  exact zt_loop0 C h0 j u H locs h1 h2 h3 hP hS kk
end
def zt_step (u : Zts) : Zts :=
  let u1 := zts_amiss u 0
  let u2 := zts_unknown u1 0
  let u3 := zts_writes u2 0
  let r5 := (zt_byteAt u3 (ztg_pc u3)).1
  let u4 := (zt_byteAt u3 (ztg_pc u3)).2
  if (ztg_amiss u4) = 0 then (
    let r8 := (zt_perform u4 r5).1
    let u7 := (zt_perform u4 r5).2
    if (ztg_amiss u7) = 0 then (
      if (ztg_unknown u7) = 0 then (
        let u25 := zts_pc u7 (ztg_next u7)
        let u26 := zts_cycles u25 ((ztg_cycles u25) + r8)
        let u27 := zts_done u26 ((ztg_done u26) + 1)
        if r5 = 255 then (
          let u30 := zts_state u27 1
          u30)
        else (
          let u29 := zts_state u27 0
          u29))
      else (
        let u18 := zt_undone u7
        let u19 := zts_sp u18 (ztg_sp u)
        let u20 := zts_lv u19 (ztg_lv u)
        let u21 := zts_top u20 (ztg_top u)
        if (ztg_amiss u21) = 0 then (
          let u23 := zts_state u21 2
          u23)
        else (
          let u24 := zts_state u21 3
          u24)))
    else (
      let u10 := zt_undone u7
      let u11 := zts_sp u10 (ztg_sp u)
      let u12 := zts_lv u11 (ztg_lv u)
      let u13 := zts_top u12 (ztg_top u)
      if (ztg_amiss u13) = 0 then (
        let u15 := zts_state u13 2
        u15)
      else (
        let u16 := zts_state u13 3
        u16)))
  else (
    if (ztg_amiss u4) = 0 then (
      if (ztg_unknown u4) = 0 then (
        let u47 := zts_pc u4 (ztg_next u4)
        let u48 := zts_cycles u47 ((ztg_cycles u47) + 0)
        let u49 := zts_done u48 ((ztg_done u48) + 1)
        if r5 = 255 then (
          let u52 := zts_state u49 1
          u52)
        else (
          let u51 := zts_state u49 0
          u51))
      else (
        let u40 := zt_undone u4
        let u41 := zts_sp u40 (ztg_sp u)
        let u42 := zts_lv u41 (ztg_lv u)
        let u43 := zts_top u42 (ztg_top u)
        if (ztg_amiss u43) = 0 then (
          let u45 := zts_state u43 2
          u45)
        else (
          let u46 := zts_state u43 3
          u46)))
    else (
      let u32 := zt_undone u4
      let u33 := zts_sp u32 (ztg_sp u)
      let u34 := zts_lv u33 (ztg_lv u)
      let u35 := zts_top u34 (ztg_top u)
      if (ztg_amiss u35) = 0 then (
        let u37 := zts_state u35 2
        u37)
      else (
        let u38 := zts_state u35 3
        u38)))
set_option maxHeartbeats 4000000 in
set_option maxRecDepth 100000 in
theorem ztM_step (l : Launch) (k : Ztk) (Dk : ZtD k) (u : Zts) : Met l yX1_step (.code yX1_step cX1_step 6 none :: zwT) (zrm 5) (ZtB k [.ref (zta_this k)] u) (ZtQ k none (zt_step u )) 0 0 (ZtA k) := by
  refine ztE_in (by decide) rfl (Nat.le_of_ble_eq_true rfl) Dk ?_
  intro p e s m below meth c ls C hr hlk hP hl
  have hx := C.1.1
  have hb := C.1.2.1
  have hl : lv_has ls 6 [(0, .ref (zta_this k))] := hl
  have hS : va_S (ZtA k) s.heap s.heap [] := va_S.rf
  refine lv_aload_n hx hb dX1_step_0 rfl (lv_at hl 0 rfl) ?_
  refine ztG_sp C hP dX1_step_1 ?_
  refine lv_istore_n (lv' := [(1, .int (ztg_sp u)), (0, .ref (zta_this k))]) hx hb dX1_step_4 rfl hl (by decide) rfl (fun ls hl => ?_)
  refine lv_aload_n hx hb dX1_step_5 rfl (lv_at hl 1 rfl) ?_
  refine ztG_lv C hP dX1_step_6 ?_
  refine lv_istore_n (lv' := [(2, .int (ztg_lv u)), (1, .int (ztg_sp u)), (0, .ref (zta_this k))]) hx hb dX1_step_9 rfl hl (by decide) rfl (fun ls hl => ?_)
  refine lv_aload_n hx hb dX1_step_10 rfl (lv_at hl 2 rfl) ?_
  refine ztG_top C hP dX1_step_11 ?_
  refine lv_istore_n (lv' := [(3, .int (ztg_top u)), (2, .int (ztg_lv u)), (1, .int (ztg_sp u)), (0, .ref (zta_this k))]) hx hb dX1_step_14 rfl hl (by decide) rfl (fun ls hl => ?_)
  refine lv_aload_n hx hb dX1_step_15 rfl (lv_at hl 3 rfl) ?_
  refine lv_iconst (v := 0) hx hb dX1_step_16 (by decide) ?_
  refine ztP_amiss C hP hS rfl rfl dX1_step_17 (fun u1 H locs hu1 hP hS => ?_)
  refine lv_aload_n hx hb dX1_step_20 rfl (lv_at hl 3 rfl) ?_
  refine lv_iconst (v := 0) hx hb dX1_step_21 (by decide) ?_
  refine ztP_unknown C hP hS rfl rfl dX1_step_22 (fun u2 H locs hu2 hP hS => ?_)
  refine lv_aload_n hx hb dX1_step_25 rfl (lv_at hl 3 rfl) ?_
  refine lv_iconst (v := 0) hx hb dX1_step_26 (by decide) ?_
  refine ztP_writes C hP hS dX1_step_27 (fun u3 H locs hu3 hP hS => ?_)
  refine lv_aload_n hx hb dX1_step_30 rfl (lv_at hl 3 rfl) ?_
  refine lv_aload_n hx hb dX1_step_31 rfl (lv_at hl 3 rfl) ?_
  refine ztG_pc C hP dX1_step_32 ?_
  refine ztK_byteAt C hP hS hl.1 (by decide) (Nat.le_of_ble_eq_true rfl) dX1_step_35 (fun r5 u4 H locs hr5 hu4 hP hS => ?_)
  refine lv_istore (lv' := [(4, .int r5), (3, .int (ztg_top u)), (2, .int (ztg_lv u)), (1, .int (ztg_sp u)), (0, .ref (zta_this k))]) hx hb dX1_step_38 hl (by decide) rfl (fun ls hl => ?_)
  refine lv_aload_n hx hb dX1_step_40 rfl (lv_at hl 4 rfl) ?_
  refine ztG_amiss C hP dX1_step_41 ?_
  refine lv_if_eq (tgt := 51) hx hb dX1_step_44 (by decide) (fun c6 => ?_) (fun c6 => ?_)
  · refine lv_aload_n hx hb dX1_step_51 rfl (lv_at hl 4 rfl) ?_
    refine lv_iload hx hb dX1_step_52 (lv_at hl 0 rfl) ?_
    refine ztK_perform C hP hS hl.1 (by decide) (Nat.le_of_ble_eq_true rfl) (by subst hu1 hu2 hu3 hr5 hu4; exact zt_Gle (by decide) (zt_G_byteAt _ (zt_G0 _))) dX1_step_54 (fun r8 u7 H locs hr8 hu7 hP hS => ?_)
    refine lv_istore (lv' := [(5, .int r8), (4, .int r5), (3, .int (ztg_top u)), (2, .int (ztg_lv u)), (1, .int (ztg_sp u)), (0, .ref (zta_this k))]) hx hb dX1_step_57 hl (by decide) rfl (fun ls hl => ?_)
    refine lv_aload_n hx hb dX1_step_59 rfl (lv_at hl 5 rfl) ?_
    refine ztG_amiss C hP dX1_step_60 ?_
    refine lv_if_ne (tgt := 120) hx hb dX1_step_63 (by decide) (fun c9 => ?_) (fun c9 => ?_)
    · refine zt_loop C (lv_at hl 5 rfl) (show ZtG _ 8 u7 by subst hu1 hu2 hu3 hr5 hu4 hr8 hu7; exact zt_Gle (by decide) (zt_G_perform _ (by omega) (zt_G_byteAt _ (zt_G0 _)))) hP hS (fun u10 H locs hu10 hP hS => ?_)
      refine lv_aload_n hx hb dX1_step_163 rfl (lv_at hl 5 rfl) ?_
      refine lv_iload_n hx hb dX1_step_164 rfl (lv_at hl 4 rfl) ?_
      refine ztP_sp C hP hS dX1_step_165 (fun u11 H locs hu11 hP hS => ?_)
      refine lv_aload_n hx hb dX1_step_168 rfl (lv_at hl 5 rfl) ?_
      refine lv_iload_n hx hb dX1_step_169 rfl (lv_at hl 3 rfl) ?_
      refine ztP_lv C hP hS dX1_step_170 (fun u12 H locs hu12 hP hS => ?_)
      refine lv_aload_n hx hb dX1_step_173 rfl (lv_at hl 5 rfl) ?_
      refine lv_iload_n hx hb dX1_step_174 rfl (lv_at hl 2 rfl) ?_
      refine ztP_top C hP hS dX1_step_175 (fun u13 H locs hu13 hP hS => ?_)
      refine lv_aload_n hx hb dX1_step_178 rfl (lv_at hl 5 rfl) ?_
      refine lv_aload_n hx hb dX1_step_179 rfl (lv_at hl 5 rfl) ?_
      refine ztG_amiss C hP dX1_step_180 ?_
      refine lv_if_eq (tgt := 190) hx hb dX1_step_183 (by decide) (fun c14 => ?_) (fun c14 => ?_)
      · refine lv_iconst (v := 2) hx hb dX1_step_190 (by decide) ?_
        refine ztP_state C hP hS dX1_step_191 (fun u15 H locs hu15 hP hS => ?_)
        exact zt_vret C hr hlk hP hS (by subst hu1 hu2 hu3 hr5 hu4 hr8 hu7 hu10 hu11 hu12 hu13 hu15; exact (if_pos c6).trans ((if_neg c9).trans ((if_pos c14).trans (rfl)))) dX1_step_194
      · refine lv_iconst (v := 3) hx hb dX1_step_186 (by decide) ?_
        refine lv_goto (tgt := 191) hx hb dX1_step_187 (by decide) ?_
        refine ztP_state C hP hS dX1_step_191 (fun u16 H locs hu16 hP hS => ?_)
        exact zt_vret C hr hlk hP hS (by subst hu1 hu2 hu3 hr5 hu4 hr8 hu7 hu10 hu11 hu12 hu13 hu16; exact (if_pos c6).trans ((if_neg c9).trans ((if_neg c14).trans (rfl)))) dX1_step_194
    · refine lv_aload_n hx hb dX1_step_66 rfl (lv_at hl 5 rfl) ?_
      refine ztG_unknown C hP dX1_step_67 ?_
      refine lv_if_ne (tgt := 120) hx hb dX1_step_70 (by decide) (fun c17 => ?_) (fun c17 => ?_)
      · refine zt_loop C (lv_at hl 5 rfl) (show ZtG _ 8 u7 by subst hu1 hu2 hu3 hr5 hu4 hr8 hu7; exact zt_Gle (by decide) (zt_G_perform _ (by omega) (zt_G_byteAt _ (zt_G0 _)))) hP hS (fun u18 H locs hu18 hP hS => ?_)
        refine lv_aload_n hx hb dX1_step_163 rfl (lv_at hl 5 rfl) ?_
        refine lv_iload_n hx hb dX1_step_164 rfl (lv_at hl 4 rfl) ?_
        refine ztP_sp C hP hS dX1_step_165 (fun u19 H locs hu19 hP hS => ?_)
        refine lv_aload_n hx hb dX1_step_168 rfl (lv_at hl 5 rfl) ?_
        refine lv_iload_n hx hb dX1_step_169 rfl (lv_at hl 3 rfl) ?_
        refine ztP_lv C hP hS dX1_step_170 (fun u20 H locs hu20 hP hS => ?_)
        refine lv_aload_n hx hb dX1_step_173 rfl (lv_at hl 5 rfl) ?_
        refine lv_iload_n hx hb dX1_step_174 rfl (lv_at hl 2 rfl) ?_
        refine ztP_top C hP hS dX1_step_175 (fun u21 H locs hu21 hP hS => ?_)
        refine lv_aload_n hx hb dX1_step_178 rfl (lv_at hl 5 rfl) ?_
        refine lv_aload_n hx hb dX1_step_179 rfl (lv_at hl 5 rfl) ?_
        refine ztG_amiss C hP dX1_step_180 ?_
        refine lv_if_eq (tgt := 190) hx hb dX1_step_183 (by decide) (fun c22 => ?_) (fun c22 => ?_)
        · refine lv_iconst (v := 2) hx hb dX1_step_190 (by decide) ?_
          refine ztP_state C hP hS dX1_step_191 (fun u23 H locs hu23 hP hS => ?_)
          exact zt_vret C hr hlk hP hS (by subst hu1 hu2 hu3 hr5 hu4 hr8 hu7 hu18 hu19 hu20 hu21 hu23; exact (if_pos c6).trans ((if_pos c9).trans ((if_neg c17).trans ((if_pos c22).trans (rfl))))) dX1_step_194
        · refine lv_iconst (v := 3) hx hb dX1_step_186 (by decide) ?_
          refine lv_goto (tgt := 191) hx hb dX1_step_187 (by decide) ?_
          refine ztP_state C hP hS dX1_step_191 (fun u24 H locs hu24 hP hS => ?_)
          exact zt_vret C hr hlk hP hS (by subst hu1 hu2 hu3 hr5 hu4 hr8 hu7 hu18 hu19 hu20 hu21 hu24; exact (if_pos c6).trans ((if_pos c9).trans ((if_neg c17).trans ((if_neg c22).trans (rfl))))) dX1_step_194
      · refine lv_aload_n hx hb dX1_step_73 rfl (lv_at hl 5 rfl) ?_
        refine lv_aload_n hx hb dX1_step_74 rfl (lv_at hl 5 rfl) ?_
        refine ztG_next C hP dX1_step_75 ?_
        refine ztP_pc C hP hS dX1_step_78 (fun u25 H locs hu25 hP hS => ?_)
        refine lv_aload_n hx hb dX1_step_81 rfl (lv_at hl 5 rfl) ?_
        refine lv_dup hx hb dX1_step_82 rfl ?_
        refine ztG_cycles C hP dX1_step_83 ?_
        refine lv_iload hx hb dX1_step_86 (lv_at hl 0 rfl) ?_
        refine lv_iadd hx hb dX1_step_88 ?_
        refine ztP_cycles C hP hS dX1_step_89 (fun u26 H locs hu26 hP hS => ?_)
        refine lv_aload_n hx hb dX1_step_92 rfl (lv_at hl 5 rfl) ?_
        refine lv_dup hx hb dX1_step_93 rfl ?_
        refine ztG_done C hP dX1_step_94 ?_
        refine lv_iconst (v := 1) hx hb dX1_step_97 (by decide) ?_
        refine lv_iadd hx hb dX1_step_98 ?_
        refine ztP_done C hP hS dX1_step_99 (fun u27 H locs hu27 hP hS => ?_)
        refine lv_aload_n hx hb dX1_step_102 rfl (lv_at hl 5 rfl) ?_
        refine lv_iload hx hb dX1_step_103 (lv_at hl 1 rfl) ?_
        refine lv_sipush (v := 255) hx hb dX1_step_105 (by decide) ?_
        refine lv_icmp_ne (tgt := 115) hx hb dX1_step_108 (by decide) (fun c28 => ?_) (fun c28 => ?_)
        · refine lv_iconst (v := 0) hx hb dX1_step_115 (by decide) ?_
          refine ztP_state C hP hS dX1_step_116 (fun u29 H locs hu29 hP hS => ?_)
          exact zt_vret C hr hlk hP hS (by subst hu1 hu2 hu3 hr5 hu4 hr8 hu7 hu25 hu26 hu27 hu29; exact (if_pos c6).trans ((if_pos c9).trans ((if_pos c17).trans ((if_neg c28).trans (rfl))))) dX1_step_119
        · refine lv_iconst (v := 1) hx hb dX1_step_111 (by decide) ?_
          refine lv_goto (tgt := 116) hx hb dX1_step_112 (by decide) ?_
          refine ztP_state C hP hS dX1_step_116 (fun u30 H locs hu30 hP hS => ?_)
          exact zt_vret C hr hlk hP hS (by subst hu1 hu2 hu3 hr5 hu4 hr8 hu7 hu25 hu26 hu27 hu30; exact (if_pos c6).trans ((if_pos c9).trans ((if_pos c17).trans ((if_pos c28).trans (rfl))))) dX1_step_119
  · refine lv_iconst (v := 0) hx hb dX1_step_47 (by decide) ?_
    refine lv_goto (tgt := 57) hx hb dX1_step_48 (by decide) ?_
    refine lv_istore (lv' := [(5, .int 0), (4, .int r5), (3, .int (ztg_top u)), (2, .int (ztg_lv u)), (1, .int (ztg_sp u)), (0, .ref (zta_this k))]) hx hb dX1_step_57 hl (by decide) rfl (fun ls hl => ?_)
    refine lv_aload_n hx hb dX1_step_59 rfl (lv_at hl 5 rfl) ?_
    refine ztG_amiss C hP dX1_step_60 ?_
    refine lv_if_ne (tgt := 120) hx hb dX1_step_63 (by decide) (fun c31 => ?_) (fun c31 => ?_)
    · refine zt_loop C (lv_at hl 5 rfl) (show ZtG _ 8 u4 by subst hu1 hu2 hu3 hr5 hu4; exact zt_Gle (by decide) (zt_G_byteAt _ (zt_G0 _))) hP hS (fun u32 H locs hu32 hP hS => ?_)
      refine lv_aload_n hx hb dX1_step_163 rfl (lv_at hl 5 rfl) ?_
      refine lv_iload_n hx hb dX1_step_164 rfl (lv_at hl 4 rfl) ?_
      refine ztP_sp C hP hS dX1_step_165 (fun u33 H locs hu33 hP hS => ?_)
      refine lv_aload_n hx hb dX1_step_168 rfl (lv_at hl 5 rfl) ?_
      refine lv_iload_n hx hb dX1_step_169 rfl (lv_at hl 3 rfl) ?_
      refine ztP_lv C hP hS dX1_step_170 (fun u34 H locs hu34 hP hS => ?_)
      refine lv_aload_n hx hb dX1_step_173 rfl (lv_at hl 5 rfl) ?_
      refine lv_iload_n hx hb dX1_step_174 rfl (lv_at hl 2 rfl) ?_
      refine ztP_top C hP hS dX1_step_175 (fun u35 H locs hu35 hP hS => ?_)
      refine lv_aload_n hx hb dX1_step_178 rfl (lv_at hl 5 rfl) ?_
      refine lv_aload_n hx hb dX1_step_179 rfl (lv_at hl 5 rfl) ?_
      refine ztG_amiss C hP dX1_step_180 ?_
      refine lv_if_eq (tgt := 190) hx hb dX1_step_183 (by decide) (fun c36 => ?_) (fun c36 => ?_)
      · refine lv_iconst (v := 2) hx hb dX1_step_190 (by decide) ?_
        refine ztP_state C hP hS dX1_step_191 (fun u37 H locs hu37 hP hS => ?_)
        exact zt_vret C hr hlk hP hS (by subst hu1 hu2 hu3 hr5 hu4 hu32 hu33 hu34 hu35 hu37; exact (if_neg c6).trans ((if_neg c31).trans ((if_pos c36).trans (rfl)))) dX1_step_194
      · refine lv_iconst (v := 3) hx hb dX1_step_186 (by decide) ?_
        refine lv_goto (tgt := 191) hx hb dX1_step_187 (by decide) ?_
        refine ztP_state C hP hS dX1_step_191 (fun u38 H locs hu38 hP hS => ?_)
        exact zt_vret C hr hlk hP hS (by subst hu1 hu2 hu3 hr5 hu4 hu32 hu33 hu34 hu35 hu38; exact (if_neg c6).trans ((if_neg c31).trans ((if_neg c36).trans (rfl)))) dX1_step_194
    · refine lv_aload_n hx hb dX1_step_66 rfl (lv_at hl 5 rfl) ?_
      refine ztG_unknown C hP dX1_step_67 ?_
      refine lv_if_ne (tgt := 120) hx hb dX1_step_70 (by decide) (fun c39 => ?_) (fun c39 => ?_)
      · refine zt_loop C (lv_at hl 5 rfl) (show ZtG _ 8 u4 by subst hu1 hu2 hu3 hr5 hu4; exact zt_Gle (by decide) (zt_G_byteAt _ (zt_G0 _))) hP hS (fun u40 H locs hu40 hP hS => ?_)
        refine lv_aload_n hx hb dX1_step_163 rfl (lv_at hl 5 rfl) ?_
        refine lv_iload_n hx hb dX1_step_164 rfl (lv_at hl 4 rfl) ?_
        refine ztP_sp C hP hS dX1_step_165 (fun u41 H locs hu41 hP hS => ?_)
        refine lv_aload_n hx hb dX1_step_168 rfl (lv_at hl 5 rfl) ?_
        refine lv_iload_n hx hb dX1_step_169 rfl (lv_at hl 3 rfl) ?_
        refine ztP_lv C hP hS dX1_step_170 (fun u42 H locs hu42 hP hS => ?_)
        refine lv_aload_n hx hb dX1_step_173 rfl (lv_at hl 5 rfl) ?_
        refine lv_iload_n hx hb dX1_step_174 rfl (lv_at hl 2 rfl) ?_
        refine ztP_top C hP hS dX1_step_175 (fun u43 H locs hu43 hP hS => ?_)
        refine lv_aload_n hx hb dX1_step_178 rfl (lv_at hl 5 rfl) ?_
        refine lv_aload_n hx hb dX1_step_179 rfl (lv_at hl 5 rfl) ?_
        refine ztG_amiss C hP dX1_step_180 ?_
        refine lv_if_eq (tgt := 190) hx hb dX1_step_183 (by decide) (fun c44 => ?_) (fun c44 => ?_)
        · refine lv_iconst (v := 2) hx hb dX1_step_190 (by decide) ?_
          refine ztP_state C hP hS dX1_step_191 (fun u45 H locs hu45 hP hS => ?_)
          exact zt_vret C hr hlk hP hS (by subst hu1 hu2 hu3 hr5 hu4 hu40 hu41 hu42 hu43 hu45; exact (if_neg c6).trans ((if_pos c31).trans ((if_neg c39).trans ((if_pos c44).trans (rfl))))) dX1_step_194
        · refine lv_iconst (v := 3) hx hb dX1_step_186 (by decide) ?_
          refine lv_goto (tgt := 191) hx hb dX1_step_187 (by decide) ?_
          refine ztP_state C hP hS dX1_step_191 (fun u46 H locs hu46 hP hS => ?_)
          exact zt_vret C hr hlk hP hS (by subst hu1 hu2 hu3 hr5 hu4 hu40 hu41 hu42 hu43 hu46; exact (if_neg c6).trans ((if_pos c31).trans ((if_neg c39).trans ((if_neg c44).trans (rfl))))) dX1_step_194
      · refine lv_aload_n hx hb dX1_step_73 rfl (lv_at hl 5 rfl) ?_
        refine lv_aload_n hx hb dX1_step_74 rfl (lv_at hl 5 rfl) ?_
        refine ztG_next C hP dX1_step_75 ?_
        refine ztP_pc C hP hS dX1_step_78 (fun u47 H locs hu47 hP hS => ?_)
        refine lv_aload_n hx hb dX1_step_81 rfl (lv_at hl 5 rfl) ?_
        refine lv_dup hx hb dX1_step_82 rfl ?_
        refine ztG_cycles C hP dX1_step_83 ?_
        refine lv_iload hx hb dX1_step_86 (lv_at hl 0 rfl) ?_
        refine lv_iadd hx hb dX1_step_88 ?_
        refine ztP_cycles C hP hS dX1_step_89 (fun u48 H locs hu48 hP hS => ?_)
        refine lv_aload_n hx hb dX1_step_92 rfl (lv_at hl 5 rfl) ?_
        refine lv_dup hx hb dX1_step_93 rfl ?_
        refine ztG_done C hP dX1_step_94 ?_
        refine lv_iconst (v := 1) hx hb dX1_step_97 (by decide) ?_
        refine lv_iadd hx hb dX1_step_98 ?_
        refine ztP_done C hP hS dX1_step_99 (fun u49 H locs hu49 hP hS => ?_)
        refine lv_aload_n hx hb dX1_step_102 rfl (lv_at hl 5 rfl) ?_
        refine lv_iload hx hb dX1_step_103 (lv_at hl 1 rfl) ?_
        refine lv_sipush (v := 255) hx hb dX1_step_105 (by decide) ?_
        refine lv_icmp_ne (tgt := 115) hx hb dX1_step_108 (by decide) (fun c50 => ?_) (fun c50 => ?_)
        · refine lv_iconst (v := 0) hx hb dX1_step_115 (by decide) ?_
          refine ztP_state C hP hS dX1_step_116 (fun u51 H locs hu51 hP hS => ?_)
          exact zt_vret C hr hlk hP hS (by subst hu1 hu2 hu3 hr5 hu4 hu47 hu48 hu49 hu51; exact (if_neg c6).trans ((if_pos c31).trans ((if_pos c39).trans ((if_neg c50).trans (rfl))))) dX1_step_119
        · refine lv_iconst (v := 1) hx hb dX1_step_111 (by decide) ?_
          refine lv_goto (tgt := 116) hx hb dX1_step_112 (by decide) ?_
          refine ztP_state C hP hS dX1_step_116 (fun u52 H locs hu52 hP hS => ?_)
          exact zt_vret C hr hlk hP hS (by subst hu1 hu2 hu3 hr5 hu4 hu47 hu48 hu49 hu52; exact (if_neg c6).trans ((if_pos c31).trans ((if_pos c39).trans ((if_pos c50).trans (rfl))))) dX1_step_119
def zt_code (u : Zts) (a1 a2 : Int32) : Zts :=
  if a1 < 0 then (
    let u2 := zts_thrown u 1
    u2)
  else (
    if 508 < a1 then (
      let u4 := zts_thrown u 1
      u4)
    else (
      let u5 := zts_thrown u 0
      let u6 := zts_bytes u5 (upd (ztg_bytes u5) (a1 + 0).toNatClampNeg ((a2 >>> ((8 * 0) &&& 31)) &&& 255))
      let u7 := zts_bytes u6 (upd (ztg_bytes u6) (a1 + 1).toNatClampNeg ((a2 >>> ((8 * 1) &&& 31)) &&& 255))
      let u8 := zts_bytes u7 (upd (ztg_bytes u7) (a1 + 2).toNatClampNeg ((a2 >>> ((8 * 2) &&& 31)) &&& 255))
      let u9 := zts_bytes u8 (upd (ztg_bytes u8) (a1 + 3).toNatClampNeg ((a2 >>> ((8 * 3) &&& 31)) &&& 255))
      u9))
set_option maxHeartbeats 4000000 in
set_option maxRecDepth 100000 in
theorem ztM_code (l : Launch) (k : Ztk) (Dk : ZtD k) (u : Zts) (a1 a2 : Int32) : Met l yX1_code (.code yX1_code cX1_code 4 none :: zwT) (zrm 0) (ZtB k [.ref (zta_this k), .int a1, .int a2] u) (ZtQ k none (zt_code u a1 a2)) 0 0 (ZtA k) := by
  refine ztE_in (by decide) rfl (Nat.le_of_ble_eq_true rfl) Dk ?_
  intro p e s m below meth c ls C hr hlk hP hl
  have hx := C.1.1
  have hb := C.1.2.1
  have hl : lv_has ls 4 [(0, .ref (zta_this k)), (1, .int a1), (2, .int a2)] := hl
  have hS : va_S (ZtA k) s.heap s.heap [] := va_S.rf
  refine lv_aload_n hx hb dX1_code_0 rfl (lv_at hl 0 rfl) ?_
  refine lv_iload_n hx hb dX1_code_1 rfl (lv_at hl 1 rfl) ?_
  refine lv_if_lt (tgt := 16) hx hb dX1_code_2 (by decide) (fun c1 => ?_) (fun c1 => ?_)
  · refine lv_iconst (v := 1) hx hb dX1_code_16 (by decide) ?_
    refine ztP_thrown C hP hS dX1_code_17 (fun u2 H locs hu2 hP hS => ?_)
    refine lv_iconst (v := 0) hx hb dX1_code_20 (by decide) ?_
    refine lv_istore_n (lv' := [(3, .int 0), (0, .ref (zta_this k)), (1, .int a1), (2, .int a2)]) hx hb dX1_code_21 rfl hl (by decide) rfl (fun ls hl => ?_)
    refine lv_iload_n hx hb dX1_code_22 rfl (lv_at hl 0 rfl) ?_
    refine lv_iconst (v := 4) hx hb dX1_code_23 (by decide) ?_
    refine lv_icmp_ge (tgt := 58) hx hb dX1_code_24 (by decide) (fun q => absurd q (by decide)) (fun _ => ?_)
    refine lv_aload_n hx hb dX1_code_27 rfl (lv_at hl 1 rfl) ?_
    refine ztG_thrown C hP dX1_code_28 ?_
    refine lv_if_ne (tgt := 58) hx hb dX1_code_31 (by decide) (fun _ => ?_) (fun q => absurd (show (1 : Int32) = 0 by subst hu2; exact q) (by decide))
    exact zt_vret C hr hlk hP hS (by subst hu2; exact (if_pos c1).trans (rfl)) dX1_code_58
  · refine lv_iload_n hx hb dX1_code_5 rfl (lv_at hl 1 rfl) ?_
    refine lv_sipush (v := 508) hx hb dX1_code_6 (by decide) ?_
    refine lv_icmp_gt (tgt := 16) hx hb dX1_code_9 (by decide) (fun c3 => ?_) (fun c3 => ?_)
    · refine lv_iconst (v := 1) hx hb dX1_code_16 (by decide) ?_
      refine ztP_thrown C hP hS dX1_code_17 (fun u4 H locs hu4 hP hS => ?_)
      refine lv_iconst (v := 0) hx hb dX1_code_20 (by decide) ?_
      refine lv_istore_n (lv' := [(3, .int 0), (0, .ref (zta_this k)), (1, .int a1), (2, .int a2)]) hx hb dX1_code_21 rfl hl (by decide) rfl (fun ls hl => ?_)
      refine lv_iload_n hx hb dX1_code_22 rfl (lv_at hl 0 rfl) ?_
      refine lv_iconst (v := 4) hx hb dX1_code_23 (by decide) ?_
      refine lv_icmp_ge (tgt := 58) hx hb dX1_code_24 (by decide) (fun q => absurd q (by decide)) (fun _ => ?_)
      refine lv_aload_n hx hb dX1_code_27 rfl (lv_at hl 1 rfl) ?_
      refine ztG_thrown C hP dX1_code_28 ?_
      refine lv_if_ne (tgt := 58) hx hb dX1_code_31 (by decide) (fun _ => ?_) (fun q => absurd (show (1 : Int32) = 0 by subst hu4; exact q) (by decide))
      exact zt_vret C hr hlk hP hS (by subst hu4; exact (if_neg c1).trans ((if_pos c3).trans (rfl))) dX1_code_58
    · refine lv_iconst (v := 0) hx hb dX1_code_12 (by decide) ?_
      refine lv_goto (tgt := 17) hx hb dX1_code_13 (by decide) ?_
      refine ztP_thrown C hP hS dX1_code_17 (fun u5 H locs hu5 hP hS => ?_)
      refine lv_iconst (v := 0) hx hb dX1_code_20 (by decide) ?_
      refine lv_istore_n (lv' := [(3, .int 0), (0, .ref (zta_this k)), (1, .int a1), (2, .int a2)]) hx hb dX1_code_21 rfl hl (by decide) rfl (fun ls hl => ?_)
      refine lv_iload_n hx hb dX1_code_22 rfl (lv_at hl 0 rfl) ?_
      refine lv_iconst (v := 4) hx hb dX1_code_23 (by decide) ?_
      refine lv_icmp_ge (tgt := 58) hx hb dX1_code_24 (by decide) (fun q => absurd q (by decide)) (fun _ => ?_)
      refine lv_aload_n hx hb dX1_code_27 rfl (lv_at hl 1 rfl) ?_
      refine ztG_thrown C hP dX1_code_28 ?_
      refine lv_if_ne (tgt := 58) hx hb dX1_code_31 (by decide) (fun q => absurd (show ¬ ((0 : Int32) = 0) by subst hu5; exact q) (by decide)) (fun _ => ?_)
      refine lv_aload_n hx hb dX1_code_34 rfl (lv_at hl 1 rfl) ?_
      refine ztG_bytes C hP dX1_code_35 ?_
      refine lv_iload_n hx hb dX1_code_38 rfl (lv_at hl 2 rfl) ?_
      refine lv_iload_n hx hb dX1_code_39 rfl (lv_at hl 0 rfl) ?_
      refine lv_iadd hx hb dX1_code_40 ?_
      refine lv_iload_n hx hb dX1_code_41 rfl (lv_at hl 3 rfl) ?_
      refine lv_bipush (v := 8) hx hb dX1_code_42 (by decide) ?_
      refine lv_iload_n hx hb dX1_code_44 rfl (lv_at hl 0 rfl) ?_
      refine lv_imul hx hb dX1_code_45 ?_
      refine lv_ishr hx hb dX1_code_46 ?_
      refine lv_sipush (v := 255) hx hb dX1_code_47 (by decide) ?_
      refine lv_iand hx hb dX1_code_50 ?_
      refine ztS_bytes C hP hS (by subst hu5; exact zt_c508 (by with_reducible assumption) (by with_reducible assumption) (by decide)) dX1_code_51 (fun u6 H locs hu6 hP hS => ?_)
      refine lv_iinc (v := 1) (lv' := [(3, .int 1), (0, .ref (zta_this k)), (1, .int a1), (2, .int a2)]) hx hb dX1_code_52 hl (k := 0) rfl (by decide) (by decide) rfl (fun ls hl => ?_)
      refine lv_goto (tgt := 22) hx hb dX1_code_55 (by decide) ?_
      refine lv_iload_n hx hb dX1_code_22 rfl (lv_at hl 0 rfl) ?_
      refine lv_iconst (v := 4) hx hb dX1_code_23 (by decide) ?_
      refine lv_icmp_ge (tgt := 58) hx hb dX1_code_24 (by decide) (fun q => absurd q (by decide)) (fun _ => ?_)
      refine lv_aload_n hx hb dX1_code_27 rfl (lv_at hl 1 rfl) ?_
      refine ztG_thrown C hP dX1_code_28 ?_
      refine lv_if_ne (tgt := 58) hx hb dX1_code_31 (by decide) (fun q => absurd (show ¬ ((0 : Int32) = 0) by subst hu5 hu6; exact q) (by decide)) (fun _ => ?_)
      refine lv_aload_n hx hb dX1_code_34 rfl (lv_at hl 1 rfl) ?_
      refine ztG_bytes C hP dX1_code_35 ?_
      refine lv_iload_n hx hb dX1_code_38 rfl (lv_at hl 2 rfl) ?_
      refine lv_iload_n hx hb dX1_code_39 rfl (lv_at hl 0 rfl) ?_
      refine lv_iadd hx hb dX1_code_40 ?_
      refine lv_iload_n hx hb dX1_code_41 rfl (lv_at hl 3 rfl) ?_
      refine lv_bipush (v := 8) hx hb dX1_code_42 (by decide) ?_
      refine lv_iload_n hx hb dX1_code_44 rfl (lv_at hl 0 rfl) ?_
      refine lv_imul hx hb dX1_code_45 ?_
      refine lv_ishr hx hb dX1_code_46 ?_
      refine lv_sipush (v := 255) hx hb dX1_code_47 (by decide) ?_
      refine lv_iand hx hb dX1_code_50 ?_
      refine ztS_bytes C hP hS (by subst hu5 hu6; exact zt_c508 (by with_reducible assumption) (by with_reducible assumption) (by decide)) dX1_code_51 (fun u7 H locs hu7 hP hS => ?_)
      refine lv_iinc (v := 2) (lv' := [(3, .int 2), (0, .ref (zta_this k)), (1, .int a1), (2, .int a2)]) hx hb dX1_code_52 hl (k := 0) rfl (by decide) (by decide) rfl (fun ls hl => ?_)
      refine lv_goto (tgt := 22) hx hb dX1_code_55 (by decide) ?_
      refine lv_iload_n hx hb dX1_code_22 rfl (lv_at hl 0 rfl) ?_
      refine lv_iconst (v := 4) hx hb dX1_code_23 (by decide) ?_
      refine lv_icmp_ge (tgt := 58) hx hb dX1_code_24 (by decide) (fun q => absurd q (by decide)) (fun _ => ?_)
      refine lv_aload_n hx hb dX1_code_27 rfl (lv_at hl 1 rfl) ?_
      refine ztG_thrown C hP dX1_code_28 ?_
      refine lv_if_ne (tgt := 58) hx hb dX1_code_31 (by decide) (fun q => absurd (show ¬ ((0 : Int32) = 0) by subst hu5 hu6 hu7; exact q) (by decide)) (fun _ => ?_)
      refine lv_aload_n hx hb dX1_code_34 rfl (lv_at hl 1 rfl) ?_
      refine ztG_bytes C hP dX1_code_35 ?_
      refine lv_iload_n hx hb dX1_code_38 rfl (lv_at hl 2 rfl) ?_
      refine lv_iload_n hx hb dX1_code_39 rfl (lv_at hl 0 rfl) ?_
      refine lv_iadd hx hb dX1_code_40 ?_
      refine lv_iload_n hx hb dX1_code_41 rfl (lv_at hl 3 rfl) ?_
      refine lv_bipush (v := 8) hx hb dX1_code_42 (by decide) ?_
      refine lv_iload_n hx hb dX1_code_44 rfl (lv_at hl 0 rfl) ?_
      refine lv_imul hx hb dX1_code_45 ?_
      refine lv_ishr hx hb dX1_code_46 ?_
      refine lv_sipush (v := 255) hx hb dX1_code_47 (by decide) ?_
      refine lv_iand hx hb dX1_code_50 ?_
      refine ztS_bytes C hP hS (by subst hu5 hu6 hu7; exact zt_c508 (by with_reducible assumption) (by with_reducible assumption) (by decide)) dX1_code_51 (fun u8 H locs hu8 hP hS => ?_)
      refine lv_iinc (v := 3) (lv' := [(3, .int 3), (0, .ref (zta_this k)), (1, .int a1), (2, .int a2)]) hx hb dX1_code_52 hl (k := 0) rfl (by decide) (by decide) rfl (fun ls hl => ?_)
      refine lv_goto (tgt := 22) hx hb dX1_code_55 (by decide) ?_
      refine lv_iload_n hx hb dX1_code_22 rfl (lv_at hl 0 rfl) ?_
      refine lv_iconst (v := 4) hx hb dX1_code_23 (by decide) ?_
      refine lv_icmp_ge (tgt := 58) hx hb dX1_code_24 (by decide) (fun q => absurd q (by decide)) (fun _ => ?_)
      refine lv_aload_n hx hb dX1_code_27 rfl (lv_at hl 1 rfl) ?_
      refine ztG_thrown C hP dX1_code_28 ?_
      refine lv_if_ne (tgt := 58) hx hb dX1_code_31 (by decide) (fun q => absurd (show ¬ ((0 : Int32) = 0) by subst hu5 hu6 hu7 hu8; exact q) (by decide)) (fun _ => ?_)
      refine lv_aload_n hx hb dX1_code_34 rfl (lv_at hl 1 rfl) ?_
      refine ztG_bytes C hP dX1_code_35 ?_
      refine lv_iload_n hx hb dX1_code_38 rfl (lv_at hl 2 rfl) ?_
      refine lv_iload_n hx hb dX1_code_39 rfl (lv_at hl 0 rfl) ?_
      refine lv_iadd hx hb dX1_code_40 ?_
      refine lv_iload_n hx hb dX1_code_41 rfl (lv_at hl 3 rfl) ?_
      refine lv_bipush (v := 8) hx hb dX1_code_42 (by decide) ?_
      refine lv_iload_n hx hb dX1_code_44 rfl (lv_at hl 0 rfl) ?_
      refine lv_imul hx hb dX1_code_45 ?_
      refine lv_ishr hx hb dX1_code_46 ?_
      refine lv_sipush (v := 255) hx hb dX1_code_47 (by decide) ?_
      refine lv_iand hx hb dX1_code_50 ?_
      refine ztS_bytes C hP hS (by subst hu5 hu6 hu7 hu8; exact zt_c508 (by with_reducible assumption) (by with_reducible assumption) (by decide)) dX1_code_51 (fun u9 H locs hu9 hP hS => ?_)
      refine lv_iinc (v := 4) (lv' := [(3, .int 4), (0, .ref (zta_this k)), (1, .int a1), (2, .int a2)]) hx hb dX1_code_52 hl (k := 0) rfl (by decide) (by decide) rfl (fun ls hl => ?_)
      refine lv_goto (tgt := 22) hx hb dX1_code_55 (by decide) ?_
      refine lv_iload_n hx hb dX1_code_22 rfl (lv_at hl 0 rfl) ?_
      refine lv_iconst (v := 4) hx hb dX1_code_23 (by decide) ?_
      refine lv_icmp_ge (tgt := 58) hx hb dX1_code_24 (by decide) (fun _ => ?_) (fun q => absurd q (by decide))
      exact zt_vret C hr hlk hP hS (by subst hu5 hu6 hu7 hu8 hu9; exact (if_neg c1).trans ((if_neg c3).trans (rfl))) dX1_code_58
end
