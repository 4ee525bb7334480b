section
-- ===== PART A: goes FIRST, ahead of the names: the tables' words, and 'selects' of the private methods out of them =====
/-- a private method of a class that the tables say can be made, by its rows of tables_1 -/
def lw_okq (q : MethodName × Nat) : Prop := (q.1.cls ≠ "java/lang/invoke/MethodHandle" ∧ q.1.cls ≠ "java/lang/invoke/VarHandle") ∧ Cond.instantiable q.1.cls q.2 ∈ tables_1 ∧ Cond.privateMethod q.1 ∈ tables_1 ∧ Cond.instanceMethod q.1 ∈ tables_1
theorem lw_p0 : lw_okq (⟨"BuildDisk", "fitsEdition", "(J)Z"⟩, 14) := ⟨⟨by decide +kernel, by decide +kernel⟩, List.mem_of_getElem? (i := 16) (by decide +kernel), List.mem_of_getElem? (i := 185) (by decide +kernel), List.mem_of_getElem? (i := 186) (by decide +kernel)⟩
theorem lw_p1 : lw_okq (⟨"BuildDisk", "beginEmpty", "()V"⟩, 14) := ⟨⟨by decide +kernel, by decide +kernel⟩, List.mem_of_getElem? (i := 16) (by decide +kernel), List.mem_of_getElem? (i := 189) (by decide +kernel), List.mem_of_getElem? (i := 190) (by decide +kernel)⟩
theorem lw_p2 : lw_okq (⟨"BuildDisk$Table", "index", "()V"⟩, 10) := ⟨⟨by decide +kernel, by decide +kernel⟩, List.mem_of_getElem? (i := 58) (by decide +kernel), List.mem_of_getElem? (i := 197) (by decide +kernel), List.mem_of_getElem? (i := 198) (by decide +kernel)⟩
theorem lw_p3 : lw_okq (⟨"BuildDisk$Table", "indexPlace", "(I)V"⟩, 10) := ⟨⟨by decide +kernel, by decide +kernel⟩, List.mem_of_getElem? (i := 58) (by decide +kernel), List.mem_of_getElem? (i := 201) (by decide +kernel), List.mem_of_getElem? (i := 202) (by decide +kernel)⟩
theorem lw_p4 : lw_okq (⟨"BuildDisk", "clearArea", "(I)V"⟩, 14) := ⟨⟨by decide +kernel, by decide +kernel⟩, List.mem_of_getElem? (i := 16) (by decide +kernel), List.mem_of_getElem? (i := 205) (by decide +kernel), List.mem_of_getElem? (i := 206) (by decide +kernel)⟩
theorem lw_p5 : lw_okq (⟨"BuildDisk", "firstSector", "(I)I"⟩, 14) := ⟨⟨by decide +kernel, by decide +kernel⟩, List.mem_of_getElem? (i := 16) (by decide +kernel), List.mem_of_getElem? (i := 209) (by decide +kernel), List.mem_of_getElem? (i := 210) (by decide +kernel)⟩
theorem lw_p6 : lw_okq (⟨"BuildDisk$Disk", "addTarget", "(I)I"⟩, 5) := ⟨⟨by decide +kernel, by decide +kernel⟩, List.mem_of_getElem? (i := 30) (by decide +kernel), List.mem_of_getElem? (i := 225) (by decide +kernel), List.mem_of_getElem? (i := 226) (by decide +kernel)⟩
theorem lw_p7 : lw_okq (⟨"BuildDisk", "beginBy", "(I)V"⟩, 14) := ⟨⟨by decide +kernel, by decide +kernel⟩, List.mem_of_getElem? (i := 16) (by decide +kernel), List.mem_of_getElem? (i := 229) (by decide +kernel), List.mem_of_getElem? (i := 230) (by decide +kernel)⟩
theorem lw_p8 : lw_okq (⟨"BuildDisk$Table", "readRow", "([BII)V"⟩, 10) := ⟨⟨by decide +kernel, by decide +kernel⟩, List.mem_of_getElem? (i := 58) (by decide +kernel), List.mem_of_getElem? (i := 252) (by decide +kernel), List.mem_of_getElem? (i := 253) (by decide +kernel)⟩
theorem lw_p9 : lw_okq (⟨"BuildDisk", "changeHeads", "()V"⟩, 14) := ⟨⟨by decide +kernel, by decide +kernel⟩, List.mem_of_getElem? (i := 16) (by decide +kernel), List.mem_of_getElem? (i := 265) (by decide +kernel), List.mem_of_getElem? (i := 266) (by decide +kernel)⟩
theorem lw_p10 : lw_okq (⟨"BuildDisk", "keep", "(IIJ)I"⟩, 14) := ⟨⟨by decide +kernel, by decide +kernel⟩, List.mem_of_getElem? (i := 16) (by decide +kernel), List.mem_of_getElem? (i := 287) (by decide +kernel), List.mem_of_getElem? (i := 288) (by decide +kernel)⟩
theorem lw_p11 : lw_okq (⟨"BuildDisk", "writeRow", "(III)V"⟩, 14) := ⟨⟨by decide +kernel, by decide +kernel⟩, List.mem_of_getElem? (i := 16) (by decide +kernel), List.mem_of_getElem? (i := 299) (by decide +kernel), List.mem_of_getElem? (i := 300) (by decide +kernel)⟩
theorem lw_p12 : lw_okq (⟨"BuildDisk$Disk", "latestWrite", "(I)I"⟩, 5) := ⟨⟨by decide +kernel, by decide +kernel⟩, List.mem_of_getElem? (i := 30) (by decide +kernel), List.mem_of_getElem? (i := 307) (by decide +kernel), List.mem_of_getElem? (i := 308) (by decide +kernel)⟩
theorem lw_p13 : lw_okq (⟨"BuildDisk", "doStep", "()Z"⟩, 14) := ⟨⟨by decide +kernel, by decide +kernel⟩, List.mem_of_getElem? (i := 16) (by decide +kernel), List.mem_of_getElem? (i := 354) (by decide +kernel), List.mem_of_getElem? (i := 355) (by decide +kernel)⟩
theorem lw_p14 : lw_okq (⟨"BuildDisk", "takePlace", "(I)V"⟩, 14) := ⟨⟨by decide +kernel, by decide +kernel⟩, List.mem_of_getElem? (i := 16) (by decide +kernel), List.mem_of_getElem? (i := 358) (by decide +kernel), List.mem_of_getElem? (i := 359) (by decide +kernel)⟩
theorem lw_p15 : lw_okq (⟨"BuildDisk", "endCompaction", "()V"⟩, 14) := ⟨⟨by decide +kernel, by decide +kernel⟩, List.mem_of_getElem? (i := 16) (by decide +kernel), List.mem_of_getElem? (i := 370) (by decide +kernel), List.mem_of_getElem? (i := 371) (by decide +kernel)⟩
def lw_privs_1 : List (MethodName × Nat) := [(⟨"BuildDisk", "fitsEdition", "(J)Z"⟩, 14), (⟨"BuildDisk", "beginEmpty", "()V"⟩, 14), (⟨"BuildDisk$Table", "index", "()V"⟩, 10), (⟨"BuildDisk$Table", "indexPlace", "(I)V"⟩, 10), (⟨"BuildDisk", "clearArea", "(I)V"⟩, 14), (⟨"BuildDisk", "firstSector", "(I)I"⟩, 14), (⟨"BuildDisk$Disk", "addTarget", "(I)I"⟩, 5), (⟨"BuildDisk", "beginBy", "(I)V"⟩, 14), (⟨"BuildDisk$Table", "readRow", "([BII)V"⟩, 10), (⟨"BuildDisk", "changeHeads", "()V"⟩, 14), (⟨"BuildDisk", "keep", "(IIJ)I"⟩, 14), (⟨"BuildDisk", "writeRow", "(III)V"⟩, 14), (⟨"BuildDisk$Disk", "latestWrite", "(I)I"⟩, 5), (⟨"BuildDisk", "doStep", "()Z"⟩, 14), (⟨"BuildDisk", "takePlace", "(I)V"⟩, 14), (⟨"BuildDisk", "endCompaction", "()V"⟩, 14)]
theorem lw_r1 : ∀ q ∈ lw_privs_1, lw_okq q := List.forall_mem_cons.mpr ⟨lw_p0, List.forall_mem_cons.mpr ⟨lw_p1, List.forall_mem_cons.mpr ⟨lw_p2, List.forall_mem_cons.mpr ⟨lw_p3, List.forall_mem_cons.mpr ⟨lw_p4, List.forall_mem_cons.mpr ⟨lw_p5, List.forall_mem_cons.mpr ⟨lw_p6, List.forall_mem_cons.mpr ⟨lw_p7, List.forall_mem_cons.mpr ⟨lw_p8, List.forall_mem_cons.mpr ⟨lw_p9, List.forall_mem_cons.mpr ⟨lw_p10, List.forall_mem_cons.mpr ⟨lw_p11, List.forall_mem_cons.mpr ⟨lw_p12, List.forall_mem_cons.mpr ⟨lw_p13, List.forall_mem_cons.mpr ⟨lw_p14, List.forall_mem_cons.mpr ⟨lw_p15, fun _ h => absurd h List.not_mem_nil⟩⟩⟩⟩⟩⟩⟩⟩⟩⟩⟩⟩⟩⟩⟩⟩
theorem lw_p16 : lw_okq (⟨"BuildDisk$Table", "move", "(II)V"⟩, 10) := ⟨⟨by decide +kernel, by decide +kernel⟩, List.mem_of_getElem? (i := 58) (by decide +kernel), List.mem_of_getElem? (i := 378) (by decide +kernel), List.mem_of_getElem? (i := 379) (by decide +kernel)⟩
theorem lw_p17 : lw_okq (⟨"BuildDisk", "allAskedAhead", "(I)Z"⟩, 14) := ⟨⟨by decide +kernel, by decide +kernel⟩, List.mem_of_getElem? (i := 16) (by decide +kernel), List.mem_of_getElem? (i := 420) (by decide +kernel), List.mem_of_getElem? (i := 421) (by decide +kernel)⟩
theorem lw_p18 : lw_okq (⟨"BuildDisk", "aboutRunning", "(I)I"⟩, 14) := ⟨⟨by decide +kernel, by decide +kernel⟩, List.mem_of_getElem? (i := 16) (by decide +kernel), List.mem_of_getElem? (i := 457) (by decide +kernel), List.mem_of_getElem? (i := 458) (by decide +kernel)⟩
theorem lw_p19 : lw_okq (⟨"java/lang/Throwable", "fillInStackTrace", "(I)Ljava/lang/Throwable;"⟩, 6) := ⟨⟨by decide +kernel, by decide +kernel⟩, List.mem_of_getElem? (i := 518) (by decide +kernel), List.mem_of_getElem? (i := 516) (by decide +kernel), List.mem_of_getElem? (i := 517) (by decide +kernel)⟩
theorem lw_p20 : lw_okq (⟨"BuildDiskModel", "isHead", "(I)Z"⟩, 26) := ⟨⟨by decide +kernel, by decide +kernel⟩, List.mem_of_getElem? (i := 550) (by decide +kernel), List.mem_of_getElem? (i := 644) (by decide +kernel), List.mem_of_getElem? (i := 645) (by decide +kernel)⟩
theorem lw_p21 : lw_okq (⟨"BuildDiskModel", "load", "(I)V"⟩, 26) := ⟨⟨by decide +kernel, by decide +kernel⟩, List.mem_of_getElem? (i := 550) (by decide +kernel), List.mem_of_getElem? (i := 648) (by decide +kernel), List.mem_of_getElem? (i := 649) (by decide +kernel)⟩
theorem lw_p22 : lw_okq (⟨"BuildDiskModel", "number", "(II)I"⟩, 26) := ⟨⟨by decide +kernel, by decide +kernel⟩, List.mem_of_getElem? (i := 550) (by decide +kernel), List.mem_of_getElem? (i := 652) (by decide +kernel), List.mem_of_getElem? (i := 653) (by decide +kernel)⟩
theorem lw_p23 : lw_okq (⟨"BuildDiskModel", "sum", "(III)I"⟩, 26) := ⟨⟨by decide +kernel, by decide +kernel⟩, List.mem_of_getElem? (i := 550) (by decide +kernel), List.mem_of_getElem? (i := 657) (by decide +kernel), List.mem_of_getElem? (i := 658) (by decide +kernel)⟩
theorem lw_p24 : lw_okq (⟨"BuildDiskModel", "zeros", "(I)V"⟩, 26) := ⟨⟨by decide +kernel, by decide +kernel⟩, List.mem_of_getElem? (i := 550) (by decide +kernel), List.mem_of_getElem? (i := 665) (by decide +kernel), List.mem_of_getElem? (i := 666) (by decide +kernel)⟩
theorem lw_p25 : lw_okq (⟨"BuildDiskModel", "clear", "()V"⟩, 26) := ⟨⟨by decide +kernel, by decide +kernel⟩, List.mem_of_getElem? (i := 550) (by decide +kernel), List.mem_of_getElem? (i := 669) (by decide +kernel), List.mem_of_getElem? (i := 670) (by decide +kernel)⟩
theorem lw_p26 : lw_okq (⟨"BuildDiskModel", "send", "(I)V"⟩, 26) := ⟨⟨by decide +kernel, by decide +kernel⟩, List.mem_of_getElem? (i := 550) (by decide +kernel), List.mem_of_getElem? (i := 673) (by decide +kernel), List.mem_of_getElem? (i := 674) (by decide +kernel)⟩
theorem lw_p27 : lw_okq (⟨"BuildDiskModel", "bringAll", "()V"⟩, 26) := ⟨⟨by decide +kernel, by decide +kernel⟩, List.mem_of_getElem? (i := 550) (by decide +kernel), List.mem_of_getElem? (i := 677) (by decide +kernel), List.mem_of_getElem? (i := 678) (by decide +kernel)⟩
theorem lw_p28 : lw_okq (⟨"BuildDiskModel", "bring", "(II)V"⟩, 26) := ⟨⟨by decide +kernel, by decide +kernel⟩, List.mem_of_getElem? (i := 550) (by decide +kernel), List.mem_of_getElem? (i := 681) (by decide +kernel), List.mem_of_getElem? (i := 682) (by decide +kernel)⟩
theorem lw_p29 : lw_okq (⟨"BuildDiskModel", "read", "(I)V"⟩, 26) := ⟨⟨by decide +kernel, by decide +kernel⟩, List.mem_of_getElem? (i := 550) (by decide +kernel), List.mem_of_getElem? (i := 685) (by decide +kernel), List.mem_of_getElem? (i := 686) (by decide +kernel)⟩
theorem lw_p30 : lw_okq (⟨"BuildDiskModel", "sectorOf", "(II)I"⟩, 26) := ⟨⟨by decide +kernel, by decide +kernel⟩, List.mem_of_getElem? (i := 550) (by decide +kernel), List.mem_of_getElem? (i := 689) (by decide +kernel), List.mem_of_getElem? (i := 690) (by decide +kernel)⟩
theorem lw_p31 : lw_okq (⟨"BuildDiskModel", "isRow", "(I)Z"⟩, 26) := ⟨⟨by decide +kernel, by decide +kernel⟩, List.mem_of_getElem? (i := 550) (by decide +kernel), List.mem_of_getElem? (i := 693) (by decide +kernel), List.mem_of_getElem? (i := 694) (by decide +kernel)⟩
def lw_privs_2 : List (MethodName × Nat) := [(⟨"BuildDisk$Table", "move", "(II)V"⟩, 10), (⟨"BuildDisk", "allAskedAhead", "(I)Z"⟩, 14), (⟨"BuildDisk", "aboutRunning", "(I)I"⟩, 14), (⟨"java/lang/Throwable", "fillInStackTrace", "(I)Ljava/lang/Throwable;"⟩, 6), (⟨"BuildDiskModel", "isHead", "(I)Z"⟩, 26), (⟨"BuildDiskModel", "load", "(I)V"⟩, 26), (⟨"BuildDiskModel", "number", "(II)I"⟩, 26), (⟨"BuildDiskModel", "sum", "(III)I"⟩, 26), (⟨"BuildDiskModel", "zeros", "(I)V"⟩, 26), (⟨"BuildDiskModel", "clear", "()V"⟩, 26), (⟨"BuildDiskModel", "send", "(I)V"⟩, 26), (⟨"BuildDiskModel", "bringAll", "()V"⟩, 26), (⟨"BuildDiskModel", "bring", "(II)V"⟩, 26), (⟨"BuildDiskModel", "read", "(I)V"⟩, 26), (⟨"BuildDiskModel", "sectorOf", "(II)I"⟩, 26), (⟨"BuildDiskModel", "isRow", "(I)Z"⟩, 26)]
theorem lw_r2 : ∀ q ∈ lw_privs_2, lw_okq q := List.forall_mem_cons.mpr ⟨lw_p16, List.forall_mem_cons.mpr ⟨lw_p17, List.forall_mem_cons.mpr ⟨lw_p18, List.forall_mem_cons.mpr ⟨lw_p19, List.forall_mem_cons.mpr ⟨lw_p20, List.forall_mem_cons.mpr ⟨lw_p21, List.forall_mem_cons.mpr ⟨lw_p22, List.forall_mem_cons.mpr ⟨lw_p23, List.forall_mem_cons.mpr ⟨lw_p24, List.forall_mem_cons.mpr ⟨lw_p25, List.forall_mem_cons.mpr ⟨lw_p26, List.forall_mem_cons.mpr ⟨lw_p27, List.forall_mem_cons.mpr ⟨lw_p28, List.forall_mem_cons.mpr ⟨lw_p29, List.forall_mem_cons.mpr ⟨lw_p30, List.forall_mem_cons.mpr ⟨lw_p31, fun _ h => absurd h List.not_mem_nil⟩⟩⟩⟩⟩⟩⟩⟩⟩⟩⟩⟩⟩⟩⟩⟩
theorem lw_p32 : lw_okq (⟨"BuildDiskModel", "changeHeads", "()V"⟩, 26) := ⟨⟨by decide +kernel, by decide +kernel⟩, List.mem_of_getElem? (i := 550) (by decide +kernel), List.mem_of_getElem? (i := 704) (by decide +kernel), List.mem_of_getElem? (i := 705) (by decide +kernel)⟩
theorem lw_p33 : lw_okq (⟨"BuildDiskModel", "head", "()V"⟩, 26) := ⟨⟨by decide +kernel, by decide +kernel⟩, List.mem_of_getElem? (i := 550) (by decide +kernel), List.mem_of_getElem? (i := 708) (by decide +kernel), List.mem_of_getElem? (i := 709) (by decide +kernel)⟩
theorem lw_p34 : lw_okq (⟨"BuildDiskModel", "put", "(IJI)V"⟩, 26) := ⟨⟨by decide +kernel, by decide +kernel⟩, List.mem_of_getElem? (i := 550) (by decide +kernel), List.mem_of_getElem? (i := 712) (by decide +kernel), List.mem_of_getElem? (i := 713) (by decide +kernel)⟩
theorem lw_p35 : lw_okq (⟨"BuildDiskModel", "keep", "(IIJ)I"⟩, 26) := ⟨⟨by decide +kernel, by decide +kernel⟩, List.mem_of_getElem? (i := 550) (by decide +kernel), List.mem_of_getElem? (i := 721) (by decide +kernel), List.mem_of_getElem? (i := 722) (by decide +kernel)⟩
theorem lw_p36 : lw_okq (⟨"BuildDiskModel", "write", "(III)V"⟩, 26) := ⟨⟨by decide +kernel, by decide +kernel⟩, List.mem_of_getElem? (i := 550) (by decide +kernel), List.mem_of_getElem? (i := 725) (by decide +kernel), List.mem_of_getElem? (i := 726) (by decide +kernel)⟩
theorem lw_p37 : lw_okq (⟨"BuildDiskModel", "step", "()Z"⟩, 26) := ⟨⟨by decide +kernel, by decide +kernel⟩, List.mem_of_getElem? (i := 550) (by decide +kernel), List.mem_of_getElem? (i := 741) (by decide +kernel), List.mem_of_getElem? (i := 742) (by decide +kernel)⟩
theorem lw_p38 : lw_okq (⟨"BuildDiskModel", "latest", "(I)I"⟩, 26) := ⟨⟨by decide +kernel, by decide +kernel⟩, List.mem_of_getElem? (i := 550) (by decide +kernel), List.mem_of_getElem? (i := 745) (by decide +kernel), List.mem_of_getElem? (i := 746) (by decide +kernel)⟩
theorem lw_p39 : lw_okq (⟨"BuildDiskModel", "isWrongBehind", "(I)Z"⟩, 26) := ⟨⟨by decide +kernel, by decide +kernel⟩, List.mem_of_getElem? (i := 550) (by decide +kernel), List.mem_of_getElem? (i := 749) (by decide +kernel), List.mem_of_getElem? (i := 750) (by decide +kernel)⟩
theorem lw_p40 : lw_okq (⟨"BuildDiskModel", "lockRow", "()I"⟩, 26) := ⟨⟨by decide +kernel, by decide +kernel⟩, List.mem_of_getElem? (i := 550) (by decide +kernel), List.mem_of_getElem? (i := 753) (by decide +kernel), List.mem_of_getElem? (i := 754) (by decide +kernel)⟩
theorem lw_p41 : lw_okq (⟨"BuildDiskModel", "copyRow", "(II)V"⟩, 26) := ⟨⟨by decide +kernel, by decide +kernel⟩, List.mem_of_getElem? (i := 550) (by decide +kernel), List.mem_of_getElem? (i := 757) (by decide +kernel), List.mem_of_getElem? (i := 758) (by decide +kernel)⟩
theorem lw_p42 : lw_okq (⟨"BuildDiskModel", "holder", "()I"⟩, 26) := ⟨⟨by decide +kernel, by decide +kernel⟩, List.mem_of_getElem? (i := 550) (by decide +kernel), List.mem_of_getElem? (i := 793) (by decide +kernel), List.mem_of_getElem? (i := 794) (by decide +kernel)⟩
def lw_privs_3 : List (MethodName × Nat) := [(⟨"BuildDiskModel", "changeHeads", "()V"⟩, 26), (⟨"BuildDiskModel", "head", "()V"⟩, 26), (⟨"BuildDiskModel", "put", "(IJI)V"⟩, 26), (⟨"BuildDiskModel", "keep", "(IIJ)I"⟩, 26), (⟨"BuildDiskModel", "write", "(III)V"⟩, 26), (⟨"BuildDiskModel", "step", "()Z"⟩, 26), (⟨"BuildDiskModel", "latest", "(I)I"⟩, 26), (⟨"BuildDiskModel", "isWrongBehind", "(I)Z"⟩, 26), (⟨"BuildDiskModel", "lockRow", "()I"⟩, 26), (⟨"BuildDiskModel", "copyRow", "(II)V"⟩, 26), (⟨"BuildDiskModel", "holder", "()I"⟩, 26)]
theorem lw_r3 : ∀ q ∈ lw_privs_3, lw_okq q := List.forall_mem_cons.mpr ⟨lw_p32, List.forall_mem_cons.mpr ⟨lw_p33, List.forall_mem_cons.mpr ⟨lw_p34, List.forall_mem_cons.mpr ⟨lw_p35, List.forall_mem_cons.mpr ⟨lw_p36, List.forall_mem_cons.mpr ⟨lw_p37, List.forall_mem_cons.mpr ⟨lw_p38, List.forall_mem_cons.mpr ⟨lw_p39, List.forall_mem_cons.mpr ⟨lw_p40, List.forall_mem_cons.mpr ⟨lw_p41, List.forall_mem_cons.mpr ⟨lw_p42, fun _ h => absurd h List.not_mem_nil⟩⟩⟩⟩⟩⟩⟩⟩⟩⟩⟩
def lw_privs : List (MethodName × Nat) := lw_privs_1 ++ (lw_privs_2 ++ (lw_privs_3))
def lw_tbl : List Cond := k2_sels lw_privs ++ tables_1
theorem lw_privs_ok : ∀ q ∈ lw_privs, lw_okq q := by
  show ∀ q ∈ lw_privs_1 ++ (lw_privs_2 ++ (lw_privs_3)), lw_okq q
  exact List.forall_mem_append.mpr ⟨lw_r1, List.forall_mem_append.mpr ⟨lw_r2, lw_r3⟩⟩
/-! the words that every contract carries: those of lw_tbl that stay true -/
def lw_T : List Cond := lw_tbl.filter goodWord
theorem lw_good : ∀ w ∈ lw_T, (w.onTables && w.keeps) = true ∨ ∃ ty, w = .arrayClass ty := fun w h => good_of_word (List.mem_filter.mp h).2
theorem lw_T_tbl : ∀ w ∈ lw_T, w ∈ lw_tbl := fun w h => (List.mem_filter.mp h).1
theorem lw_inS {w : Cond} (i : Nat) (h : (k2_sels lw_privs)[i]? = some w) (g : goodWord w = true) : w ∈ lw_T := List.mem_filter.mpr ⟨List.mem_append_left _ (List.mem_of_getElem? h), g⟩
theorem lw_in1 {w : Cond} (i : Nat) (h : tables_1_1[i]? = some w) (g : goodWord w = true) : w ∈ lw_T := List.mem_filter.mpr ⟨List.mem_append_right _ (List.mem_append_left _ (List.mem_of_getElem? h)), g⟩
theorem lw_in2 {w : Cond} (i : Nat) (h : tables_1_2[i]? = some w) (g : goodWord w = true) : w ∈ lw_T := List.mem_filter.mpr ⟨List.mem_append_right _ (List.mem_append_right _ (List.mem_append_left _ (List.mem_of_getElem? h))), g⟩
theorem lw_in3 {w : Cond} (i : Nat) (h : tables_1_3[i]? = some w) (g : goodWord w = true) : w ∈ lw_T := List.mem_filter.mpr ⟨List.mem_append_right _ (List.mem_append_right _ (List.mem_append_right _ (List.mem_append_left _ (List.mem_of_getElem? h)))), g⟩
theorem lw_in4 {w : Cond} (i : Nat) (h : tables_1_4[i]? = some w) (g : goodWord w = true) : w ∈ lw_T := List.mem_filter.mpr ⟨List.mem_append_right _ (List.mem_append_right _ (List.mem_append_right _ (List.mem_append_right _ (List.mem_of_getElem? h)))), g⟩
end
section
/-! numbers: every int of a walk is iZ z, z an Int -/
def iZ (z : Int) : Int32 := Int32.ofInt z
theorem iZ_toInt {z : Int} (h : -2147483648 ≤ z ∧ z ≤ 2147483647) : (iZ z).toInt = z := Int32.toInt_ofInt_of_le (by omega) (by omega)
theorem iZ_of (x : Int32) : iZ x.toInt = x := Int32.ofInt_toInt x
theorem iZ_ex (x : Int32) : ∃ z : Int, (-2147483648 ≤ z ∧ z ≤ 2147483647) ∧ x = iZ z := ⟨x.toInt, ⟨by have := x.le_toInt; omega, by have := x.toInt_lt; omega⟩, (iZ_of x).symm⟩
theorem iZ_add (a b : Int) : iZ a + iZ b = iZ (a + b) := (Int32.ofInt_add a b).symm
theorem iZ_sub (a b : Int) : iZ a - iZ b = iZ (a - b) := (Int32.ofInt_sub a b).symm
theorem iZ_mul (a b : Int) : iZ a * iZ b = iZ (a * b) := (Int32.ofInt_mul a b).symm
theorem iZ_neg (a : Int) : -iZ a = iZ (-a) := (Int32.ofInt_neg a).symm
theorem iZ_lt {a b : Int} (h : (-2147483648 ≤ a ∧ a ≤ 2147483647) ∧ (-2147483648 ≤ b ∧ b ≤ 2147483647)) : iZ a < iZ b ↔ a < b := by rw [Int32.lt_iff_toInt_lt, iZ_toInt h.1, iZ_toInt h.2]
theorem iZ_le {a b : Int} (h : (-2147483648 ≤ a ∧ a ≤ 2147483647) ∧ (-2147483648 ≤ b ∧ b ≤ 2147483647)) : iZ a ≤ iZ b ↔ a ≤ b := by rw [Int32.le_iff_toInt_le, iZ_toInt h.1, iZ_toInt h.2]
theorem iZ_eq {a b : Int} (h : (-2147483648 ≤ a ∧ a ≤ 2147483647) ∧ (-2147483648 ≤ b ∧ b ≤ 2147483647)) : iZ a = iZ b ↔ a = b := ⟨fun q => by rw [← iZ_toInt h.1, ← iZ_toInt h.2, q], fun q => by rw [q]⟩
theorem iZ_0 : iZ 0 = 0 := rfl
theorem iZ_cl {a : Int} (h : 0 ≤ a ∧ a ≤ 2147483647) : (iZ a).toNatClampNeg = a.toNat := Int32.toNatClampNeg_ofInt_of_le (by omega) (by omega)
theorem iZ_in {a : Int} {n : Nat} (h : 0 ≤ a ∧ a < n) (hn : n < 2147483648) : vp_in (iZ a) n := by
  rw [vp_in_iff, iZ_toInt ⟨by omega, by omega⟩]
  exact h
theorem iZ_nat (n : Nat) : Int32.ofNat n = iZ (n : Int) := (Int32.ofInt_eq_ofNat).symm
theorem iZ_and255 (a : Int) : iZ a &&& 255 = iZ (a % 256) := by
  have h : (255 : Int32).toBitVec.toNat = 2 ^ 8 - 1 := by decide
  rw [pk_and (iZ a) 8 h]
  have e1 : (iZ a).toBitVec = BitVec.ofInt 32 a := rfl
  rw [e1, BitVec.toNat_ofInt]
  show Int32.ofNat _ = _
  rw [iZ_nat]
  congr 1
  omega
theorem iZ_and1 (a : Int) : iZ a &&& 1 = iZ (a % 2) := by
  have h : (1 : Int32).toBitVec.toNat = 2 ^ 1 - 1 := by decide
  rw [pk_and (iZ a) 1 h]
  have e1 : (iZ a).toBitVec = BitVec.ofInt 32 a := rfl
  rw [e1, BitVec.toNat_ofInt]
  show Int32.ofNat _ = _
  rw [iZ_nat]
  congr 1
  omega
theorem iZ_and15 (a : Int) : iZ a &&& 15 = iZ (a % 16) := by
  have h : (15 : Int32).toBitVec.toNat = 2 ^ 4 - 1 := by decide
  rw [pk_and (iZ a) 4 h]
  have e1 : (iZ a).toBitVec = BitVec.ofInt 32 a := rfl
  rw [e1, BitVec.toNat_ofInt]
  show Int32.ofNat _ = _
  rw [iZ_nat]
  congr 1
  omega
theorem iZ_b (a : Int) : (iZ a).toInt8.toInt32 = iZ (a.bmod 256) := by
  show (Int32.ofInt a).toInt8.toInt32 = _
  rw [Int32.toInt8_ofInt]
  show (Int8.ofInt a).toInt32 = Int32.ofInt _
  rw [← Int32.ofInt_int8ToInt, Int8.toInt_ofInt]
theorem iZ_div {a b : Int} (ha : (-2147483648 ≤ a ∧ a ≤ 2147483647)) (hb : 0 < b ∧ b ≤ 2147483647) : iZ a / iZ b = iZ (a.tdiv b) := by
  apply Int32.toInt.inj
  rw [Int32.toInt_div_of_ne_right _ _ (fun q => by
    have : (iZ b).toInt = -1 := by rw [q]; rfl
    rw [iZ_toInt ⟨by omega, by omega⟩] at this; omega), iZ_toInt ha, iZ_toInt ⟨by omega, by omega⟩, iZ_toInt]
  have h1 : a.tdiv b ≤ 2147483647 ∧ -2147483648 ≤ a.tdiv b := by
    rcases Int.le_total 0 a with h | h
    · have h2 := Int.tdiv_nonneg h (Int.le_of_lt hb.1)
      have h3 : a.tdiv b ≤ a := Int.tdiv_le_self b h
      omega
    · have h2 : (-a).tdiv b = -(a.tdiv b) := Int.neg_tdiv a b
      have h4 := Int.tdiv_nonneg (show 0 ≤ -a by omega) (Int.le_of_lt hb.1)
      have h3 : (-a).tdiv b ≤ -a := Int.tdiv_le_self b (by omega)
      omega
  exact ⟨h1.2, h1.1⟩
theorem iZ_rem {a b : Int} (ha : (-2147483648 ≤ a ∧ a ≤ 2147483647)) (hb : 0 < b ∧ b ≤ 2147483647) : iZ a - iZ a / iZ b * iZ b = iZ (a.tmod b) := by
  rw [iZ_div ha hb, iZ_mul, iZ_sub]
  congr 1
  have := Int.mul_tdiv_add_tmod a b
  have h2 : a.tdiv b * b = b * a.tdiv b := Int.mul_comm _ _
  omega
theorem iZ_max (a b : Int) (h : (-2147483648 ≤ a ∧ a ≤ 2147483647) ∧ (-2147483648 ≤ b ∧ b ≤ 2147483647)) : (if iZ a < iZ b then iZ b else iZ a) = iZ (max a b) := by
  by_cases q : a < b
  · rw [if_pos ((iZ_lt h).mpr q), show max a b = b by omega]
  · rw [if_neg (fun z => q ((iZ_lt h).mp z)), show max a b = a by omega]
theorem iZ_min (a b : Int) (h : (-2147483648 ≤ a ∧ a ≤ 2147483647) ∧ (-2147483648 ≤ b ∧ b ≤ 2147483647)) : (if iZ b < iZ a then iZ b else iZ a) = iZ (min a b) := by
  by_cases q : b < a
  · rw [if_pos ((iZ_lt ⟨h.2, h.1⟩).mpr q), show min a b = b by omega]
  · rw [if_neg (fun z => q ((iZ_lt ⟨h.2, h.1⟩).mp z)), show min a b = a by omega]
/-! contents of an array of ints -/
def zf (z : Nat → Int) : Nat → Int32 := fun j => iZ (z j)
def zu (z : Nat → Int) (k : Nat) (v : Int) : Nat → Int := fun j => if j = k then v else z j
theorem zu_s {z : Nat → Int} {k : Nat} {v : Int} : zu z k v k = v := if_pos rfl
theorem zu_n {z : Nat → Int} {k j : Nat} {v : Int} (h : j ≠ k) : zu z k v j = z j := if_neg h
theorem zf_upd (z : Nat → Int) (k : Nat) (v : Int) : upd (zf z) k (iZ v) = zf (zu z k v) := by
  funext j
  unfold upd zf zu
  by_cases h : j = k <;> simp [h]
theorem zf_0 : (fun _ => (0 : Int32)) = zf (fun _ => 0) := rfl
theorem zf_cpy (z w : Nat → Int) (sp dp n : Nat) : va_cpy (zf z) (zf w) sp dp n = zf (va_cpy z w sp dp n) := by
  funext j
  unfold va_cpy zf
  by_cases h : dp ≤ j ∧ j < dp + n <;> simp [h]
def rng (lo hi : Int) (z : Nat → Int) : Prop := ∀ j, lo ≤ z j ∧ z j ≤ hi
theorem rng_0 {lo hi : Int} (h : lo ≤ 0 ∧ 0 ≤ hi) : rng lo hi (fun _ => 0) := fun _ => h
theorem rng_zu {lo hi : Int} {z : Nat → Int} {k : Nat} {v : Int} (h : rng lo hi z) (hv : lo ≤ v ∧ v ≤ hi) : rng lo hi (zu z k v) := fun j => by
  unfold zu
  by_cases q : j = k
  · rw [if_pos q]; exact hv
  · rw [if_neg q]; exact h j
theorem rng_cpy {lo hi : Int} {z w : Nat → Int} {sp dp n : Nat} (h : rng lo hi z) (h2 : rng lo hi w) : rng lo hi (va_cpy z w sp dp n) := fun j => by
  unfold va_cpy
  by_cases q : dp ≤ j ∧ j < dp + n
  · rw [if_pos q]; exact h _
  · rw [if_neg q]; exact h2 j
theorem bm_r (v : Int) : -128 ≤ v.bmod 256 ∧ v.bmod 256 ≤ 127 := by
  have h1 := Int.bmod_lt (x := v) (m := 256) (by decide)
  have h2 := Int.le_bmod (x := v) (m := 256) (by decide)
  omega
theorem bm_id {v : Int} (h : -128 ≤ v ∧ v ≤ 127) : v.bmod 256 = v := Int.bmod_eq_of_le (by omega) (by omega)
theorem fitB {x : Int} (h : -128 ≤ x ∧ x ≤ 127) : fits .byte (.int (iZ x)) = true := by
  have h1 := pk_fb (iZ x)
  rw [iZ_b, bm_id h] at h1
  exact h1
theorem dv_spec (a b : Int) (_ : 0 < b) : 0 ≤ a → a.tdiv b = a / b := fun h => Int.tdiv_eq_ediv_of_nonneg h
theorem md_spec (a b : Int) (hb : 0 < b) : (0 ≤ a → a.tmod b = a % b) ∧ -b < a.tmod b ∧ a.tmod b < b := ⟨fun h => Int.tmod_eq_emod_of_nonneg h, (tmod_bounds hb).1, (tmod_bounds hb).2⟩
/-! cells -/
abbrev KI : Type := ClassId × ClassId × ClassId × ClassId
abbrev TY (K : KI) : List (ClassId × FieldType) := [(K.1, .int), (K.2.1, .byte), (K.2.2.1, .boolean), (K.2.2.2, .long)]
abbrev aI (K : KI) (a n : Nat) (z : Nat → Int) : Nat × va_E := (a, .inl (K.1, n, .inl (zf z)))
abbrev aB (K : KI) (a n : Nat) (z : Nat → Int) : Nat × va_E := (a, .inl (K.2.1, n, .inl (zf z)))
abbrev aZ (K : KI) (a n : Nat) (z : Nat → Int) : Nat × va_E := (a, .inl (K.2.2.1, n, .inl (zf z)))
abbrev aL (K : KI) (a n : Nat) (f : Nat → Int64) : Nat × va_E := (a, .inl (K.2.2.2, n, .inr (.inl f)))
/-! the context of a walk -/
abbrev ZC : Type := Program × Launch × Env × State × MethodId × Array Value × List Frame × Method × Code × (State → Prop) × (Nat → Prop) × Heap
abbrev zl (C : ZC) : Launch := C.2.1
abbrev zNm (C : ZC) : String := C.2.2.2.2.2.2.2.1.name
def Go (C : ZC) (R : Room) (D : va_G) (cl : List vw_C) (nL : Nat) (k n : Nat) (ws : va_W) (pc : Nat) (lv : List (Nat × Value)) (st : List Value) : Prop := match C with
  | (p, l, e, s, m, args, below, meth, c, Q, A, H0) => ∀ (H : Heap) (locs : List Loc) (ls : Array Slot), va_P D cl ws H → va_D A ws → va_S A H0 H locs → lv_has ls nL lv → W p l e R s m args below meth c H locs k n Q (F0 m pc ls st)
def Fx (C : ZC) (D : va_G) (cl : List vw_C) (tys : List (ClassId × FieldType)) (cc : ByteArray) (nL : Nat) (Ts : List Cond) (own : String) : Prop := match C with
  | (p, l, e, s, m, args, below, meth, c, Q, A, H0) => CallFix p m c cc nL s args Ts own ∧ va_K D cl tys s ∧ (∀ q, H0.size ≤ q → A q) ∧ meth.locks = false
section ZROW
variable {C : ZC} {R : Room} {D : va_G} {cl : List vw_C} {tys : List (ClassId × FieldType)} {cc : ByteArray} {nL : Nat} {Ts : List Cond} {own : String} {kc ns : Nat} {ws : va_W} {pc : Nat} {lv : List (Nat × Value)} {st : List Value}
theorem z_iconst (F : Fx C D cl tys cc nL Ts own) {n : Int} (hd : decode cc pc = .ok (.iconst n, 1)) (k : Go C R D cl nL kc ns (ws) (pc + 1) (lv) (.int (iZ n) :: st)) : Go C R D cl nL kc ns (ws) (pc) (lv) (st) := by
  obtain ⟨p, l, e, s, m, args, below, meth, c, Q, A, H0⟩ := C
  obtain ⟨⟨hx, hb, hml, hown, hts⟩, hK, hA, hlk0⟩ := F
  intro H locs ls hP hD hS hl
  exact lv_iconst hx hb hd rfl (k H locs ls hP hD hS hl)
theorem z_bipush (F : Fx C D cl tys cc nL Ts own) {n : Int} (hd : decode cc pc = .ok (.bipush n, 2)) (hv : (Int8.ofInt n).toInt32 = iZ n) (k : Go C R D cl nL kc ns (ws) (pc + 2) (lv) (.int (iZ n) :: st)) : Go C R D cl nL kc ns (ws) (pc) (lv) (st) := by
  obtain ⟨p, l, e, s, m, args, below, meth, c, Q, A, H0⟩ := C
  obtain ⟨⟨hx, hb, hml, hown, hts⟩, hK, hA, hlk0⟩ := F
  intro H locs ls hP hD hS hl
  exact lv_bipush hx hb hd hv (k H locs ls hP hD hS hl)
theorem z_sipush (F : Fx C D cl tys cc nL Ts own) {n : Int} (hd : decode cc pc = .ok (.sipush n, 3)) (hv : (Int16.ofInt n).toInt32 = iZ n) (k : Go C R D cl nL kc ns (ws) (pc + 3) (lv) (.int (iZ n) :: st)) : Go C R D cl nL kc ns (ws) (pc) (lv) (st) := by
  obtain ⟨p, l, e, s, m, args, below, meth, c, Q, A, H0⟩ := C
  obtain ⟨⟨hx, hb, hml, hown, hts⟩, hK, hA, hlk0⟩ := F
  intro H locs ls hP hD hS hl
  exact lv_sipush hx hb hd hv (k H locs ls hP hD hS hl)
theorem z_lconst (F : Fx C D cl tys cc nL Ts own) {n : Fin 2} {v : Int64} (hd : decode cc pc = .ok (.lconst n, 1)) (hv : Int64.ofNat (n : Nat) = v) (k : Go C R D cl nL kc ns (ws) (pc + 1) (lv) (.long v :: st)) : Go C R D cl nL kc ns (ws) (pc) (lv) (st) := by
  obtain ⟨p, l, e, s, m, args, below, meth, c, Q, A, H0⟩ := C
  obtain ⟨⟨hx, hb, hml, hown, hts⟩, hK, hA, hlk0⟩ := F
  intro H locs ls hP hD hS hl
  exact lv_lconst hx hb hd hv (k H locs ls hP hD hS hl)
theorem z_ldc (F : Fx C D cl tys cc nL Ts own) {index : Nat} {v : Int32} {z : Int} (hc : Cond.constant own index v ∈ Ts) (hd : decode cc pc = .ok (.ldc index, 2)) (hv : v = iZ z) (k : Go C R D cl nL kc ns (ws) (pc + 2) (lv) (.int (iZ z) :: st)) : Go C R D cl nL kc ns (ws) (pc) (lv) (st) := by
  obtain ⟨p, l, e, s, m, args, below, meth, c, Q, A, H0⟩ := C
  obtain ⟨⟨hx, hb, hml, hown, hts⟩, hK, hA, hlk0⟩ := F
  intro H locs ls hP hD hS hl
  subst hv
  exact lv_ldc hx hb hown (hts _ hc) hd (k H locs ls hP hD hS hl)
theorem z_ldc2 (F : Fx C D cl tys cc nL Ts own) {index : Nat} {v : Int64} (hc : Cond.constantLong own index v ∈ Ts) (hd : decode cc pc = .ok (.ldc2_w index, 3)) (k : Go C R D cl nL kc ns (ws) (pc + 3) (lv) (.long v :: st)) : Go C R D cl nL kc ns (ws) (pc) (lv) (st) := by
  obtain ⟨p, l, e, s, m, args, below, meth, c, Q, A, H0⟩ := C
  obtain ⟨⟨hx, hb, hml, hown, hts⟩, hK, hA, hlk0⟩ := F
  intro H locs ls hP hD hS hl
  exact lv_ldc2 hx hb hown (hts _ hc) hd (k H locs ls hP hD hS hl)
theorem z_iload_n (F : Fx C D cl tys cc nL Ts own) {i : Fin 4} {x : Int32} (j : Nat) (hd : decode cc pc = .ok (.iload_n i, 1)) (hl0 : lv[j]? = some ((i : Nat), .int x)) (k : Go C R D cl nL kc ns (ws) (pc + 1) (lv) (.int x :: st)) : Go C R D cl nL kc ns (ws) (pc) (lv) (st) := by
  obtain ⟨p, l, e, s, m, args, below, meth, c, Q, A, H0⟩ := C
  obtain ⟨⟨hx, hb, hml, hown, hts⟩, hK, hA, hlk0⟩ := F
  intro H locs ls hP hD hS hl
  exact lv_iload_n hx hb hd rfl (lv_at hl j hl0) (k H locs ls hP hD hS hl)
theorem z_iload (F : Fx C D cl tys cc nL Ts own) {i : Nat} {x : Int32} (j : Nat) (hd : decode cc pc = .ok (.iload i, 2)) (hl0 : lv[j]? = some (i, .int x)) (k : Go C R D cl nL kc ns (ws) (pc + 2) (lv) (.int x :: st)) : Go C R D cl nL kc ns (ws) (pc) (lv) (st) := by
  obtain ⟨p, l, e, s, m, args, below, meth, c, Q, A, H0⟩ := C
  obtain ⟨⟨hx, hb, hml, hown, hts⟩, hK, hA, hlk0⟩ := F
  intro H locs ls hP hD hS hl
  exact lv_iload hx hb hd (lv_at hl j hl0) (k H locs ls hP hD hS hl)
theorem z_lload_n (F : Fx C D cl tys cc nL Ts own) {i : Fin 4} {x : Int64} (j : Nat) (hd : decode cc pc = .ok (.lload_n i, 1)) (hl0 : lv[j]? = some ((i : Nat), .long x)) (k : Go C R D cl nL kc ns (ws) (pc + 1) (lv) (.long x :: st)) : Go C R D cl nL kc ns (ws) (pc) (lv) (st) := by
  obtain ⟨p, l, e, s, m, args, below, meth, c, Q, A, H0⟩ := C
  obtain ⟨⟨hx, hb, hml, hown, hts⟩, hK, hA, hlk0⟩ := F
  intro H locs ls hP hD hS hl
  exact lv_lload_n hx hb hd rfl (lv_at hl j hl0) (k H locs ls hP hD hS hl)
theorem z_lload (F : Fx C D cl tys cc nL Ts own) {i : Nat} {x : Int64} (j : Nat) (hd : decode cc pc = .ok (.lload i, 2)) (hl0 : lv[j]? = some (i, .long x)) (k : Go C R D cl nL kc ns (ws) (pc + 2) (lv) (.long x :: st)) : Go C R D cl nL kc ns (ws) (pc) (lv) (st) := by
  obtain ⟨p, l, e, s, m, args, below, meth, c, Q, A, H0⟩ := C
  obtain ⟨⟨hx, hb, hml, hown, hts⟩, hK, hA, hlk0⟩ := F
  intro H locs ls hP hD hS hl
  exact lv_lload hx hb hd (lv_at hl j hl0) (k H locs ls hP hD hS hl)
theorem z_aload_n (F : Fx C D cl tys cc nL Ts own) {i : Fin 4} {x : Nat} (j : Nat) (hd : decode cc pc = .ok (.aload_n i, 1)) (hl0 : lv[j]? = some ((i : Nat), .ref x)) (k : Go C R D cl nL kc ns (ws) (pc + 1) (lv) (.ref x :: st)) : Go C R D cl nL kc ns (ws) (pc) (lv) (st) := by
  obtain ⟨p, l, e, s, m, args, below, meth, c, Q, A, H0⟩ := C
  obtain ⟨⟨hx, hb, hml, hown, hts⟩, hK, hA, hlk0⟩ := F
  intro H locs ls hP hD hS hl
  exact lv_aload_n hx hb hd rfl (lv_at hl j hl0) (k H locs ls hP hD hS hl)
theorem z_aload (F : Fx C D cl tys cc nL Ts own) {i : Nat} {x : Nat} (j : Nat) (hd : decode cc pc = .ok (.aload i, 2)) (hl0 : lv[j]? = some (i, .ref x)) (k : Go C R D cl nL kc ns (ws) (pc + 2) (lv) (.ref x :: st)) : Go C R D cl nL kc ns (ws) (pc) (lv) (st) := by
  obtain ⟨p, l, e, s, m, args, below, meth, c, Q, A, H0⟩ := C
  obtain ⟨⟨hx, hb, hml, hown, hts⟩, hK, hA, hlk0⟩ := F
  intro H locs ls hP hD hS hl
  exact lv_aload hx hb hd (lv_at hl j hl0) (k H locs ls hP hD hS hl)
theorem z_istore_n (F : Fx C D cl tys cc nL Ts own) {i : Fin 4} {x : Int32} {lv' : List (Nat × Value)} (hd : decode cc pc = .ok (.istore_n i, 1)) (hn : (i : Nat) < nL) (hl0 : ((i : Nat), Value.int x) :: lv.filter (fun q => !(q.1 == (i : Nat)) && !(q.1 + 1 == (i : Nat) && q.2.category == 2)) = lv') (k : Go C R D cl nL kc ns (ws) (pc + 1) (lv') (st)) : Go C R D cl nL kc ns (ws) (pc) (lv) (.int x :: st) := by
  obtain ⟨p, l, e, s, m, args, below, meth, c, Q, A, H0⟩ := C
  obtain ⟨⟨hx, hb, hml, hown, hts⟩, hK, hA, hlk0⟩ := F
  intro H locs ls hP hD hS hl
  exact lv_istore_n hx hb hd rfl hl hn hl0 (fun ls hl => k H locs ls hP hD hS hl)
theorem z_istore (F : Fx C D cl tys cc nL Ts own) {i : Nat} {x : Int32} {lv' : List (Nat × Value)} (hd : decode cc pc = .ok (.istore i, 2)) (hn : i < nL) (hl0 : (i, Value.int x) :: lv.filter (fun q => !(q.1 == i) && !(q.1 + 1 == i && q.2.category == 2)) = lv') (k : Go C R D cl nL kc ns (ws) (pc + 2) (lv') (st)) : Go C R D cl nL kc ns (ws) (pc) (lv) (.int x :: st) := by
  obtain ⟨p, l, e, s, m, args, below, meth, c, Q, A, H0⟩ := C
  obtain ⟨⟨hx, hb, hml, hown, hts⟩, hK, hA, hlk0⟩ := F
  intro H locs ls hP hD hS hl
  exact lv_istore hx hb hd hl hn hl0 (fun ls hl => k H locs ls hP hD hS hl)
theorem z_astore_n (F : Fx C D cl tys cc nL Ts own) {i : Fin 4} {x : Nat} {lv' : List (Nat × Value)} (hd : decode cc pc = .ok (.astore_n i, 1)) (hn : (i : Nat) < nL) (hl0 : ((i : Nat), Value.ref x) :: lv.filter (fun q => !(q.1 == (i : Nat)) && !(q.1 + 1 == (i : Nat) && q.2.category == 2)) = lv') (k : Go C R D cl nL kc ns (ws) (pc + 1) (lv') (st)) : Go C R D cl nL kc ns (ws) (pc) (lv) (.ref x :: st) := by
  obtain ⟨p, l, e, s, m, args, below, meth, c, Q, A, H0⟩ := C
  obtain ⟨⟨hx, hb, hml, hown, hts⟩, hK, hA, hlk0⟩ := F
  intro H locs ls hP hD hS hl
  exact lv_astore_n hx hb hd rfl hl hn hl0 (fun ls hl => k H locs ls hP hD hS hl)
theorem z_astore (F : Fx C D cl tys cc nL Ts own) {i : Nat} {x : Nat} {lv' : List (Nat × Value)} (hd : decode cc pc = .ok (.astore i, 2)) (hn : i < nL) (hl0 : (i, Value.ref x) :: lv.filter (fun q => !(q.1 == i) && !(q.1 + 1 == i && q.2.category == 2)) = lv') (k : Go C R D cl nL kc ns (ws) (pc + 2) (lv') (st)) : Go C R D cl nL kc ns (ws) (pc) (lv) (.ref x :: st) := by
  obtain ⟨p, l, e, s, m, args, below, meth, c, Q, A, H0⟩ := C
  obtain ⟨⟨hx, hb, hml, hown, hts⟩, hK, hA, hlk0⟩ := F
  intro H locs ls hP hD hS hl
  exact lv_astore hx hb hd hl hn hl0 (fun ls hl => k H locs ls hP hD hS hl)
theorem z_iinc (F : Fx C D cl tys cc nL Ts own) {i : Nat} {n z : Int} {lv' : List (Nat × Value)} (j : Nat) (hd : decode cc pc = .ok (.iinc i n, 3)) (hj : lv[j]? = some (i, .int (iZ z))) (hn : i < nL) (hl0 : (i, Value.int (iZ (z + n))) :: lv.filter (fun q => !(q.1 == i) && !(q.1 + 1 == i && q.2.category == 2)) = lv') (k : Go C R D cl nL kc ns (ws) (pc + 3) (lv') (st)) : Go C R D cl nL kc ns (ws) (pc) (lv) (st) := by
  obtain ⟨p, l, e, s, m, args, below, meth, c, Q, A, H0⟩ := C
  obtain ⟨⟨hx, hb, hml, hown, hts⟩, hK, hA, hlk0⟩ := F
  intro H locs ls hP hD hS hl
  exact lv_iinc (v := iZ (z + n)) hx hb hd hl hj (iZ_add z n) hn hl0 (fun ls hl => k H locs ls hP hD hS hl)
theorem z_iadd (F : Fx C D cl tys cc nL Ts own) {a b : Int} (hd : decode cc pc = .ok (.iadd, 1)) (k : Go C R D cl nL kc ns (ws) (pc + 1) (lv) (.int (iZ (a + b)) :: st)) : Go C R D cl nL kc ns (ws) (pc) (lv) (.int (iZ b) :: .int (iZ a) :: st) := by
  obtain ⟨p, l, e, s, m, args, below, meth, c, Q, A, H0⟩ := C
  obtain ⟨⟨hx, hb, hml, hown, hts⟩, hK, hA, hlk0⟩ := F
  intro H locs ls hP hD hS hl
  refine lv_iadd hx hb hd ?_
  rw [iZ_add]
  exact k H locs ls hP hD hS hl
theorem z_isub (F : Fx C D cl tys cc nL Ts own) {a b : Int} (hd : decode cc pc = .ok (.isub, 1)) (k : Go C R D cl nL kc ns (ws) (pc + 1) (lv) (.int (iZ (a - b)) :: st)) : Go C R D cl nL kc ns (ws) (pc) (lv) (.int (iZ b) :: .int (iZ a) :: st) := by
  obtain ⟨p, l, e, s, m, args, below, meth, c, Q, A, H0⟩ := C
  obtain ⟨⟨hx, hb, hml, hown, hts⟩, hK, hA, hlk0⟩ := F
  intro H locs ls hP hD hS hl
  refine lv_isub hx hb hd ?_
  rw [iZ_sub]
  exact k H locs ls hP hD hS hl
theorem z_imul (F : Fx C D cl tys cc nL Ts own) {a b : Int} (hd : decode cc pc = .ok (.imul, 1)) (k : Go C R D cl nL kc ns (ws) (pc + 1) (lv) (.int (iZ (a * b)) :: st)) : Go C R D cl nL kc ns (ws) (pc) (lv) (.int (iZ b) :: .int (iZ a) :: st) := by
  obtain ⟨p, l, e, s, m, args, below, meth, c, Q, A, H0⟩ := C
  obtain ⟨⟨hx, hb, hml, hown, hts⟩, hK, hA, hlk0⟩ := F
  intro H locs ls hP hD hS hl
  refine lv_imul hx hb hd ?_
  rw [iZ_mul]
  exact k H locs ls hP hD hS hl
theorem z_ineg (F : Fx C D cl tys cc nL Ts own) {a : Int} (hd : decode cc pc = .ok (.ineg, 1)) (k : Go C R D cl nL kc ns (ws) (pc + 1) (lv) (.int (iZ (-a)) :: st)) : Go C R D cl nL kc ns (ws) (pc) (lv) (.int (iZ a) :: st) := by
  obtain ⟨p, l, e, s, m, args, below, meth, c, Q, A, H0⟩ := C
  obtain ⟨⟨hx, hb, hml, hown, hts⟩, hK, hA, hlk0⟩ := F
  intro H locs ls hP hD hS hl
  refine lv_ineg hx hb hd ?_
  rw [iZ_neg]
  exact k H locs ls hP hD hS hl
theorem z_idiv (F : Fx C D cl tys cc nL Ts own) {a b : Int} (hd : decode cc pc = .ok (.idiv, 1)) (ha : (-2147483648 ≤ a ∧ a ≤ 2147483647)) (hb0 : 0 < b ∧ b ≤ 2147483647) (k : Go C R D cl nL kc ns (ws) (pc + 1) (lv) (.int (iZ (a.tdiv b)) :: st)) : Go C R D cl nL kc ns (ws) (pc) (lv) (.int (iZ b) :: .int (iZ a) :: st) := by
  obtain ⟨p, l, e, s, m, args, below, meth, c, Q, A, H0⟩ := C
  obtain ⟨⟨hx, hb, hml, hown, hts⟩, hK, hA, hlk0⟩ := F
  intro H locs ls hP hD hS hl
  refine lv_idiv hx hb hd (fun q => ?_) ?_
  · have := (iZ_eq (a := b) (b := 0) ⟨⟨by omega, by omega⟩, by decide⟩).mp q
    omega
  · rw [iZ_div ha hb0]
    exact k H locs ls hP hD hS hl
theorem z_irem (F : Fx C D cl tys cc nL Ts own) {a b : Int} (hd : decode cc pc = .ok (.irem, 1)) (ha : (-2147483648 ≤ a ∧ a ≤ 2147483647)) (hb0 : 0 < b ∧ b ≤ 2147483647) (k : Go C R D cl nL kc ns (ws) (pc + 1) (lv) (.int (iZ (a.tmod b)) :: st)) : Go C R D cl nL kc ns (ws) (pc) (lv) (.int (iZ b) :: .int (iZ a) :: st) := by
  obtain ⟨p, l, e, s, m, args, below, meth, c, Q, A, H0⟩ := C
  obtain ⟨⟨hx, hb, hml, hown, hts⟩, hK, hA, hlk0⟩ := F
  intro H locs ls hP hD hS hl
  refine lv_irem hx hb hd (fun q => ?_) ?_
  · have := (iZ_eq (a := b) (b := 0) ⟨⟨by omega, by omega⟩, by decide⟩).mp q
    omega
  · rw [iZ_rem ha hb0]
    exact k H locs ls hP hD hS hl
theorem z_and255 (F : Fx C D cl tys cc nL Ts own) {a : Int} (hd : decode cc pc = .ok (.iand, 1)) (k : Go C R D cl nL kc ns (ws) (pc + 1) (lv) (.int (iZ (a % 256)) :: st)) : Go C R D cl nL kc ns (ws) (pc) (lv) (.int (iZ 255) :: .int (iZ a) :: st) := by
  obtain ⟨p, l, e, s, m, args, below, meth, c, Q, A, H0⟩ := C
  obtain ⟨⟨hx, hb, hml, hown, hts⟩, hK, hA, hlk0⟩ := F
  intro H locs ls hP hD hS hl
  refine lv_iand hx hb hd ?_
  rw [show iZ 255 = (255 : Int32) from rfl, iZ_and255]
  exact k H locs ls hP hD hS hl
theorem z_and15 (F : Fx C D cl tys cc nL Ts own) {a : Int} (hd : decode cc pc = .ok (.iand, 1)) (k : Go C R D cl nL kc ns (ws) (pc + 1) (lv) (.int (iZ (a % 16)) :: st)) : Go C R D cl nL kc ns (ws) (pc) (lv) (.int (iZ 15) :: .int (iZ a) :: st) := by
  obtain ⟨p, l, e, s, m, args, below, meth, c, Q, A, H0⟩ := C
  obtain ⟨⟨hx, hb, hml, hown, hts⟩, hK, hA, hlk0⟩ := F
  intro H locs ls hP hD hS hl
  refine lv_iand hx hb hd ?_
  rw [show iZ 15 = (15 : Int32) from rfl, iZ_and15]
  exact k H locs ls hP hD hS hl
theorem z_and1 (F : Fx C D cl tys cc nL Ts own) {a : Int} (hd : decode cc pc = .ok (.iand, 1)) (k : Go C R D cl nL kc ns (ws) (pc + 1) (lv) (.int (iZ (a % 2)) :: st)) : Go C R D cl nL kc ns (ws) (pc) (lv) (.int (iZ 1) :: .int (iZ a) :: st) := by
  obtain ⟨p, l, e, s, m, args, below, meth, c, Q, A, H0⟩ := C
  obtain ⟨⟨hx, hb, hml, hown, hts⟩, hK, hA, hlk0⟩ := F
  intro H locs ls hP hD hS hl
  refine lv_iand hx hb hd ?_
  rw [show iZ 1 = (1 : Int32) from rfl, iZ_and1]
  exact k H locs ls hP hD hS hl
theorem z_iand (F : Fx C D cl tys cc nL Ts own) {x y : Int32} (hd : decode cc pc = .ok (.iand, 1)) (k : ∀ z : Int, (-2147483648 ≤ z ∧ z ≤ 2147483647) → x &&& y = iZ z → Go C R D cl nL kc ns (ws) (pc + 1) (lv) (.int (iZ z) :: st)) : Go C R D cl nL kc ns (ws) (pc) (lv) (.int y :: .int x :: st) := by
  obtain ⟨p, l, e, s, m, args, below, meth, c, Q, A, H0⟩ := C
  obtain ⟨⟨hx, hb, hml, hown, hts⟩, hK, hA, hlk0⟩ := F
  intro H locs ls hP hD hS hl
  obtain ⟨z, h1, h2⟩ := iZ_ex (x &&& y)
  refine lv_iand hx hb hd ?_
  rw [h2]
  exact k z h1 h2 H locs ls hP hD hS hl
theorem z_ior (F : Fx C D cl tys cc nL Ts own) {x y : Int32} (hd : decode cc pc = .ok (.ior, 1)) (k : ∀ z : Int, (-2147483648 ≤ z ∧ z ≤ 2147483647) → x ||| y = iZ z → Go C R D cl nL kc ns (ws) (pc + 1) (lv) (.int (iZ z) :: st)) : Go C R D cl nL kc ns (ws) (pc) (lv) (.int y :: .int x :: st) := by
  obtain ⟨p, l, e, s, m, args, below, meth, c, Q, A, H0⟩ := C
  obtain ⟨⟨hx, hb, hml, hown, hts⟩, hK, hA, hlk0⟩ := F
  intro H locs ls hP hD hS hl
  obtain ⟨z, h1, h2⟩ := iZ_ex (x ||| y)
  refine lv_ior hx hb hd ?_
  rw [h2]
  exact k z h1 h2 H locs ls hP hD hS hl
theorem z_ixor (F : Fx C D cl tys cc nL Ts own) {x y : Int32} (hd : decode cc pc = .ok (.ixor, 1)) (k : ∀ z : Int, (-2147483648 ≤ z ∧ z ≤ 2147483647) → x ^^^ y = iZ z → Go C R D cl nL kc ns (ws) (pc + 1) (lv) (.int (iZ z) :: st)) : Go C R D cl nL kc ns (ws) (pc) (lv) (.int y :: .int x :: st) := by
  obtain ⟨p, l, e, s, m, args, below, meth, c, Q, A, H0⟩ := C
  obtain ⟨⟨hx, hb, hml, hown, hts⟩, hK, hA, hlk0⟩ := F
  intro H locs ls hP hD hS hl
  obtain ⟨z, h1, h2⟩ := iZ_ex (x ^^^ y)
  refine lv_ixor hx hb hd ?_
  rw [h2]
  exact k z h1 h2 H locs ls hP hD hS hl
theorem z_ishl (F : Fx C D cl tys cc nL Ts own) {x y : Int32} (hd : decode cc pc = .ok (.ishl, 1)) (k : ∀ z : Int, (-2147483648 ≤ z ∧ z ≤ 2147483647) → x <<< (y &&& 31) = iZ z → Go C R D cl nL kc ns (ws) (pc + 1) (lv) (.int (iZ z) :: st)) : Go C R D cl nL kc ns (ws) (pc) (lv) (.int y :: .int x :: st) := by
  obtain ⟨p, l, e, s, m, args, below, meth, c, Q, A, H0⟩ := C
  obtain ⟨⟨hx, hb, hml, hown, hts⟩, hK, hA, hlk0⟩ := F
  intro H locs ls hP hD hS hl
  obtain ⟨z, h1, h2⟩ := iZ_ex (x <<< (y &&& 31))
  refine lv_ishl hx hb hd ?_
  rw [h2]
  exact k z h1 h2 H locs ls hP hD hS hl
theorem z_ishr (F : Fx C D cl tys cc nL Ts own) {x y : Int32} (hd : decode cc pc = .ok (.ishr, 1)) (k : ∀ z : Int, (-2147483648 ≤ z ∧ z ≤ 2147483647) → x >>> (y &&& 31) = iZ z → Go C R D cl nL kc ns (ws) (pc + 1) (lv) (.int (iZ z) :: st)) : Go C R D cl nL kc ns (ws) (pc) (lv) (.int y :: .int x :: st) := by
  obtain ⟨p, l, e, s, m, args, below, meth, c, Q, A, H0⟩ := C
  obtain ⟨⟨hx, hb, hml, hown, hts⟩, hK, hA, hlk0⟩ := F
  intro H locs ls hP hD hS hl
  obtain ⟨z, h1, h2⟩ := iZ_ex (x >>> (y &&& 31))
  refine lv_ishr hx hb hd ?_
  rw [h2]
  exact k z h1 h2 H locs ls hP hD hS hl
theorem z_iushr (F : Fx C D cl tys cc nL Ts own) {x y : Int32} (hd : decode cc pc = .ok (.iushr, 1)) (k : ∀ z : Int, (-2147483648 ≤ z ∧ z ≤ 2147483647) → (x.toUInt32 >>> (y.toUInt32 &&& Int32.toUInt32 31)).toInt32 = iZ z → Go C R D cl nL kc ns (ws) (pc + 1) (lv) (.int (iZ z) :: st)) : Go C R D cl nL kc ns (ws) (pc) (lv) (.int y :: .int x :: st) := by
  obtain ⟨p, l, e, s, m, args, below, meth, c, Q, A, H0⟩ := C
  obtain ⟨⟨hx, hb, hml, hown, hts⟩, hK, hA, hlk0⟩ := F
  intro H locs ls hP hD hS hl
  obtain ⟨z, h1, h2⟩ := iZ_ex ((x.toUInt32 >>> (y.toUInt32 &&& Int32.toUInt32 31)).toInt32)
  exact lv_iushr hx hb hd h2 (k z h1 h2 H locs ls hP hD hS hl)
theorem z_l2i (F : Fx C D cl tys cc nL Ts own) {x : Int64} (hd : decode cc pc = .ok (.l2i, 1)) (k : ∀ z : Int, (-2147483648 ≤ z ∧ z ≤ 2147483647) → x.toInt32 = iZ z → Go C R D cl nL kc ns (ws) (pc + 1) (lv) (.int (iZ z) :: st)) : Go C R D cl nL kc ns (ws) (pc) (lv) (.long x :: st) := by
  obtain ⟨p, l, e, s, m, args, below, meth, c, Q, A, H0⟩ := C
  obtain ⟨⟨hx, hb, hml, hown, hts⟩, hK, hA, hlk0⟩ := F
  intro H locs ls hP hD hS hl
  obtain ⟨z, h1, h2⟩ := iZ_ex (x.toInt32)
  exact lv_l2i hx hb hd h2 (k z h1 h2 H locs ls hP hD hS hl)
theorem z_lcmp (F : Fx C D cl tys cc nL Ts own) {x y : Int64} (hd : decode cc pc = .ok (.lcmp, 1)) (k : ∀ z : Int, (-2147483648 ≤ z ∧ z ≤ 2147483647) → lg_cmp x y = iZ z → Go C R D cl nL kc ns (ws) (pc + 1) (lv) (.int (iZ z) :: st)) : Go C R D cl nL kc ns (ws) (pc) (lv) (.long y :: .long x :: st) := by
  obtain ⟨p, l, e, s, m, args, below, meth, c, Q, A, H0⟩ := C
  obtain ⟨⟨hx, hb, hml, hown, hts⟩, hK, hA, hlk0⟩ := F
  intro H locs ls hP hD hS hl
  obtain ⟨z, h1, h2⟩ := iZ_ex (lg_cmp x y)
  refine W.lcmp hx hb hd ?_
  rw [h2]
  exact k z h1 h2 H locs ls hP hD hS hl
theorem z_i2b (F : Fx C D cl tys cc nL Ts own) {a : Int} (hd : decode cc pc = .ok (.i2b, 1)) (k : Go C R D cl nL kc ns (ws) (pc + 1) (lv) (.int (iZ (a.bmod 256)) :: st)) : Go C R D cl nL kc ns (ws) (pc) (lv) (.int (iZ a) :: st) := by
  obtain ⟨p, l, e, s, m, args, below, meth, c, Q, A, H0⟩ := C
  obtain ⟨⟨hx, hb, hml, hown, hts⟩, hK, hA, hlk0⟩ := F
  intro H locs ls hP hD hS hl
  exact lv_i2b hx hb hd (iZ_b a) (k H locs ls hP hD hS hl)
theorem z_i2l (F : Fx C D cl tys cc nL Ts own) {x : Int32} (hd : decode cc pc = .ok (.i2l, 1)) (k : Go C R D cl nL kc ns (ws) (pc + 1) (lv) (.long x.toInt64 :: st)) : Go C R D cl nL kc ns (ws) (pc) (lv) (.int x :: st) := by
  obtain ⟨p, l, e, s, m, args, below, meth, c, Q, A, H0⟩ := C
  obtain ⟨⟨hx, hb, hml, hown, hts⟩, hK, hA, hlk0⟩ := F
  intro H locs ls hP hD hS hl
  exact lv_i2l hx hb hd rfl (k H locs ls hP hD hS hl)
theorem z_ladd (F : Fx C D cl tys cc nL Ts own) {x y : Int64} (hd : decode cc pc = .ok (.ladd, 1)) (k : Go C R D cl nL kc ns (ws) (pc + 1) (lv) (.long (x + y) :: st)) : Go C R D cl nL kc ns (ws) (pc) (lv) (.long y :: .long x :: st) := by
  obtain ⟨p, l, e, s, m, args, below, meth, c, Q, A, H0⟩ := C
  obtain ⟨⟨hx, hb, hml, hown, hts⟩, hK, hA, hlk0⟩ := F
  intro H locs ls hP hD hS hl
  exact lv_ladd hx hb hd (k H locs ls hP hD hS hl)
theorem z_lsub (F : Fx C D cl tys cc nL Ts own) {x y : Int64} (hd : decode cc pc = .ok (.lsub, 1)) (k : Go C R D cl nL kc ns (ws) (pc + 1) (lv) (.long (x - y) :: st)) : Go C R D cl nL kc ns (ws) (pc) (lv) (.long y :: .long x :: st) := by
  obtain ⟨p, l, e, s, m, args, below, meth, c, Q, A, H0⟩ := C
  obtain ⟨⟨hx, hb, hml, hown, hts⟩, hK, hA, hlk0⟩ := F
  intro H locs ls hP hD hS hl
  exact lv_lsub hx hb hd (k H locs ls hP hD hS hl)
theorem z_lmul (F : Fx C D cl tys cc nL Ts own) {x y : Int64} (hd : decode cc pc = .ok (.lmul, 1)) (k : Go C R D cl nL kc ns (ws) (pc + 1) (lv) (.long (x * y) :: st)) : Go C R D cl nL kc ns (ws) (pc) (lv) (.long y :: .long x :: st) := by
  obtain ⟨p, l, e, s, m, args, below, meth, c, Q, A, H0⟩ := C
  obtain ⟨⟨hx, hb, hml, hown, hts⟩, hK, hA, hlk0⟩ := F
  intro H locs ls hP hD hS hl
  exact lv_lmul hx hb hd (k H locs ls hP hD hS hl)
theorem z_land (F : Fx C D cl tys cc nL Ts own) {x y : Int64} (hd : decode cc pc = .ok (.land, 1)) (k : Go C R D cl nL kc ns (ws) (pc + 1) (lv) (.long (x &&& y) :: st)) : Go C R D cl nL kc ns (ws) (pc) (lv) (.long y :: .long x :: st) := by
  obtain ⟨p, l, e, s, m, args, below, meth, c, Q, A, H0⟩ := C
  obtain ⟨⟨hx, hb, hml, hown, hts⟩, hK, hA, hlk0⟩ := F
  intro H locs ls hP hD hS hl
  exact lv_land hx hb hd (k H locs ls hP hD hS hl)
theorem z_lor (F : Fx C D cl tys cc nL Ts own) {x y : Int64} (hd : decode cc pc = .ok (.lor, 1)) (k : Go C R D cl nL kc ns (ws) (pc + 1) (lv) (.long (x ||| y) :: st)) : Go C R D cl nL kc ns (ws) (pc) (lv) (.long y :: .long x :: st) := by
  obtain ⟨p, l, e, s, m, args, below, meth, c, Q, A, H0⟩ := C
  obtain ⟨⟨hx, hb, hml, hown, hts⟩, hK, hA, hlk0⟩ := F
  intro H locs ls hP hD hS hl
  exact lv_lor hx hb hd (k H locs ls hP hD hS hl)
theorem z_lxor (F : Fx C D cl tys cc nL Ts own) {x y : Int64} (hd : decode cc pc = .ok (.lxor, 1)) (k : Go C R D cl nL kc ns (ws) (pc + 1) (lv) (.long (x ^^^ y) :: st)) : Go C R D cl nL kc ns (ws) (pc) (lv) (.long y :: .long x :: st) := by
  obtain ⟨p, l, e, s, m, args, below, meth, c, Q, A, H0⟩ := C
  obtain ⟨⟨hx, hb, hml, hown, hts⟩, hK, hA, hlk0⟩ := F
  intro H locs ls hP hD hS hl
  exact lv_lxor hx hb hd (k H locs ls hP hD hS hl)
theorem z_lrem (F : Fx C D cl tys cc nL Ts own) {x y : Int64} (hd : decode cc pc = .ok (.lrem, 1)) (hne : ¬ y = 0) (k : Go C R D cl nL kc ns (ws) (pc + 1) (lv) (.long (x - x / y * y) :: st)) : Go C R D cl nL kc ns (ws) (pc) (lv) (.long y :: .long x :: st) := by
  obtain ⟨p, l, e, s, m, args, below, meth, c, Q, A, H0⟩ := C
  obtain ⟨⟨hx, hb, hml, hown, hts⟩, hK, hA, hlk0⟩ := F
  intro H locs ls hP hD hS hl
  exact lv_lrem hx hb hd hne (k H locs ls hP hD hS hl)
theorem z_lushr (F : Fx C D cl tys cc nL Ts own) {x : Int64} {y : Int32} (hd : decode cc pc = .ok (.lushr, 1)) (k : Go C R D cl nL kc ns (ws) (pc + 1) (lv) (.long ((x.toUInt64 >>> (y.toInt64.toUInt64 &&& Int64.toUInt64 63)).toInt64) :: st)) : Go C R D cl nL kc ns (ws) (pc) (lv) (.int y :: .long x :: st) := by
  obtain ⟨p, l, e, s, m, args, below, meth, c, Q, A, H0⟩ := C
  obtain ⟨⟨hx, hb, hml, hown, hts⟩, hK, hA, hlk0⟩ := F
  intro H locs ls hP hD hS hl
  exact lv_lushr hx hb hd rfl (k H locs ls hP hD hS hl)
theorem z_lshl (F : Fx C D cl tys cc nL Ts own) {x : Int64} {y : Int32} (hd : decode cc pc = .ok (.lshl, 1)) (k : Go C R D cl nL kc ns (ws) (pc + 1) (lv) (.long (x <<< (y.toInt64 &&& 63)) :: st)) : Go C R D cl nL kc ns (ws) (pc) (lv) (.int y :: .long x :: st) := by
  obtain ⟨p, l, e, s, m, args, below, meth, c, Q, A, H0⟩ := C
  obtain ⟨⟨hx, hb, hml, hown, hts⟩, hK, hA, hlk0⟩ := F
  intro H locs ls hP hD hS hl
  exact lv_lshl hx hb hd rfl (k H locs ls hP hD hS hl)
theorem z_lshr (F : Fx C D cl tys cc nL Ts own) {x : Int64} {y : Int32} (hd : decode cc pc = .ok (.lshr, 1)) (k : Go C R D cl nL kc ns (ws) (pc + 1) (lv) (.long (x >>> (y.toInt64 &&& 63)) :: st)) : Go C R D cl nL kc ns (ws) (pc) (lv) (.int y :: .long x :: st) := by
  obtain ⟨p, l, e, s, m, args, below, meth, c, Q, A, H0⟩ := C
  obtain ⟨⟨hx, hb, hml, hown, hts⟩, hK, hA, hlk0⟩ := F
  intro H locs ls hP hD hS hl
  exact lv_lshr hx hb hd rfl (k H locs ls hP hD hS hl)
theorem z_lstore_n (F : Fx C D cl tys cc nL Ts own) {i : Fin 4} {x : Int64} {lv' : List (Nat × Value)} (hd : decode cc pc = .ok (.lstore_n i, 1)) (hn : (i : Nat) + 1 < nL) (hl0 : ((i : Nat), Value.long x) :: lv.filter (fun q => !(q.1 == (i : Nat)) && (!(q.1 == (i : Nat) + 1) && !(q.1 + 1 == (i : Nat) && q.2.category == 2))) = lv') (k : Go C R D cl nL kc ns (ws) (pc + 1) (lv') (st)) : Go C R D cl nL kc ns (ws) (pc) (lv) (.long x :: st) := by
  obtain ⟨p, l, e, s, m, args, below, meth, c, Q, A, H0⟩ := C
  obtain ⟨⟨hx, hb, hml, hown, hts⟩, hK, hA, hlk0⟩ := F
  intro H locs ls hP hD hS hl
  exact lv_lstore_n hx hb hd rfl hl hn hl0 (fun ls hl => k H locs ls hP hD hS hl)
theorem z_lstore (F : Fx C D cl tys cc nL Ts own) {i : Nat} {x : Int64} {lv' : List (Nat × Value)} (hd : decode cc pc = .ok (.lstore i, 2)) (hn : i + 1 < nL) (hl0 : (i, Value.long x) :: lv.filter (fun q => !(q.1 == i) && (!(q.1 == i + 1) && !(q.1 + 1 == i && q.2.category == 2))) = lv') (k : Go C R D cl nL kc ns (ws) (pc + 2) (lv') (st)) : Go C R D cl nL kc ns (ws) (pc) (lv) (.long x :: st) := by
  obtain ⟨p, l, e, s, m, args, below, meth, c, Q, A, H0⟩ := C
  obtain ⟨⟨hx, hb, hml, hown, hts⟩, hK, hA, hlk0⟩ := F
  intro H locs ls hP hD hS hl
  exact lv_lstore hx hb hd hl hn hl0 (fun ls hl => k H locs ls hP hD hS hl)
theorem z_dup (F : Fx C D cl tys cc nL Ts own) {v : Value} (hd : decode cc pc = .ok (.dup, 1)) (hv : v.category = 1) (k : Go C R D cl nL kc ns (ws) (pc + 1) (lv) (v :: v :: st)) : Go C R D cl nL kc ns (ws) (pc) (lv) (v :: st) := by
  obtain ⟨p, l, e, s, m, args, below, meth, c, Q, A, H0⟩ := C
  obtain ⟨⟨hx, hb, hml, hown, hts⟩, hK, hA, hlk0⟩ := F
  intro H locs ls hP hD hS hl
  exact lv_dup hx hb hd hv (k H locs ls hP hD hS hl)
theorem z_pop (F : Fx C D cl tys cc nL Ts own) {v : Value} (hd : decode cc pc = .ok (.pop, 1)) (hv : v.category = 1) (k : Go C R D cl nL kc ns (ws) (pc + 1) (lv) (st)) : Go C R D cl nL kc ns (ws) (pc) (lv) (v :: st) := by
  obtain ⟨p, l, e, s, m, args, below, meth, c, Q, A, H0⟩ := C
  obtain ⟨⟨hx, hb, hml, hown, hts⟩, hK, hA, hlk0⟩ := F
  intro H locs ls hP hD hS hl
  exact lv_pop hx hb hd hv (k H locs ls hP hD hS hl)
theorem z_dup2 (F : Fx C D cl tys cc nL Ts own) {v w : Value} (hd : decode cc pc = .ok (.dup2, 1)) (hv : v.category = 1) (hw : w.category = 1) (k : Go C R D cl nL kc ns (ws) (pc + 1) (lv) (v :: w :: v :: w :: st)) : Go C R D cl nL kc ns (ws) (pc) (lv) (v :: w :: st) := by
  obtain ⟨p, l, e, s, m, args, below, meth, c, Q, A, H0⟩ := C
  obtain ⟨⟨hx, hb, hml, hown, hts⟩, hK, hA, hlk0⟩ := F
  intro H locs ls hP hD hS hl
  exact lv_dup2_11 hx hb hd hv hw (k H locs ls hP hD hS hl)
theorem z_dup2l (F : Fx C D cl tys cc nL Ts own) {v : Value} (hd : decode cc pc = .ok (.dup2, 1)) (hv : v.category = 2) (k : Go C R D cl nL kc ns (ws) (pc + 1) (lv) (v :: v :: st)) : Go C R D cl nL kc ns (ws) (pc) (lv) (v :: st) := by
  obtain ⟨p, l, e, s, m, args, below, meth, c, Q, A, H0⟩ := C
  obtain ⟨⟨hx, hb, hml, hown, hts⟩, hK, hA, hlk0⟩ := F
  intro H locs ls hP hD hS hl
  exact lv_dup2_2 hx hb hd hv (k H locs ls hP hD hS hl)
theorem z_pop2l (F : Fx C D cl tys cc nL Ts own) {v : Value} (hd : decode cc pc = .ok (.pop2, 1)) (hv : v.category = 2) (k : Go C R D cl nL kc ns (ws) (pc + 1) (lv) (st)) : Go C R D cl nL kc ns (ws) (pc) (lv) (v :: st) := by
  obtain ⟨p, l, e, s, m, args, below, meth, c, Q, A, H0⟩ := C
  obtain ⟨⟨hx, hb, hml, hown, hts⟩, hK, hA, hlk0⟩ := F
  intro H locs ls hP hD hS hl
  exact lv_pop2_2 hx hb hd hv (k H locs ls hP hD hS hl)
theorem z_dup_x1 (F : Fx C D cl tys cc nL Ts own) {v w : Value} (hd : decode cc pc = .ok (.dup_x1, 1)) (hv : v.category = 1) (hw : w.category = 1) (k : Go C R D cl nL kc ns (ws) (pc + 1) (lv) (v :: w :: v :: st)) : Go C R D cl nL kc ns (ws) (pc) (lv) (v :: w :: st) := by
  obtain ⟨p, l, e, s, m, args, below, meth, c, Q, A, H0⟩ := C
  obtain ⟨⟨hx, hb, hml, hown, hts⟩, hK, hA, hlk0⟩ := F
  intro H locs ls hP hD hS hl
  exact lv_dup_x1 hx hb hd hv hw (k H locs ls hP hD hS hl)
theorem z_icmp_eq (F : Fx C D cl tys cc nL Ts own) {a b off : Int} (tgt : Nat) (hd : decode cc pc = .ok (.if_icmp .eq off, 3)) (ht : (pc : Int) + off = (tgt : Int)) (h : (-2147483648 ≤ a ∧ a ≤ 2147483647) ∧ (-2147483648 ≤ b ∧ b ≤ 2147483647)) (kt : a = b → Go C R D cl nL kc ns (ws) (tgt) (lv) (st)) (kf : ¬ a = b → Go C R D cl nL kc ns (ws) (pc + 3) (lv) (st)) : Go C R D cl nL kc ns (ws) (pc) (lv) (.int (iZ b) :: .int (iZ a) :: st) := by
  obtain ⟨p, l, e, s, m, args, below, meth, c, Q, A, H0⟩ := C
  obtain ⟨⟨hx, hb, hml, hown, hts⟩, hK, hA, hlk0⟩ := F
  intro H locs ls hP hD hS hl
  exact lv_icmp_eq hx hb hd ht (fun q => kt ((iZ_eq h).mp q) H locs ls hP hD hS hl) (fun q => kf (fun z => q ((iZ_eq h).mpr z)) H locs ls hP hD hS hl)
theorem z_if_eq (F : Fx C D cl tys cc nL Ts own) {a off : Int} (tgt : Nat) (hd : decode cc pc = .ok (.ifCond .eq off, 3)) (ht : (pc : Int) + off = (tgt : Int)) (h : (-2147483648 ≤ a ∧ a ≤ 2147483647)) (kt : a = 0 → Go C R D cl nL kc ns (ws) (tgt) (lv) (st)) (kf : ¬ a = 0 → Go C R D cl nL kc ns (ws) (pc + 3) (lv) (st)) : Go C R D cl nL kc ns (ws) (pc) (lv) (.int (iZ a) :: st) := by
  obtain ⟨p, l, e, s, m, args, below, meth, c, Q, A, H0⟩ := C
  obtain ⟨⟨hx, hb, hml, hown, hts⟩, hK, hA, hlk0⟩ := F
  intro H locs ls hP hD hS hl
  exact lv_if_eq hx hb hd ht (fun q => kt ((iZ_eq (b := 0) ⟨h, by decide⟩).mp q) H locs ls hP hD hS hl) (fun q => kf (fun z => q ((iZ_eq (b := 0) ⟨h, by decide⟩).mpr z)) H locs ls hP hD hS hl)
theorem z_icmp_ne (F : Fx C D cl tys cc nL Ts own) {a b off : Int} (tgt : Nat) (hd : decode cc pc = .ok (.if_icmp .ne off, 3)) (ht : (pc : Int) + off = (tgt : Int)) (h : (-2147483648 ≤ a ∧ a ≤ 2147483647) ∧ (-2147483648 ≤ b ∧ b ≤ 2147483647)) (kt : ¬ a = b → Go C R D cl nL kc ns (ws) (tgt) (lv) (st)) (kf : a = b → Go C R D cl nL kc ns (ws) (pc + 3) (lv) (st)) : Go C R D cl nL kc ns (ws) (pc) (lv) (.int (iZ b) :: .int (iZ a) :: st) := by
  obtain ⟨p, l, e, s, m, args, below, meth, c, Q, A, H0⟩ := C
  obtain ⟨⟨hx, hb, hml, hown, hts⟩, hK, hA, hlk0⟩ := F
  intro H locs ls hP hD hS hl
  exact lv_icmp_ne hx hb hd ht (fun q => kt (fun z => q ((iZ_eq h).mpr z)) H locs ls hP hD hS hl) (fun q => kf ((iZ_eq h).mp q) H locs ls hP hD hS hl)
theorem z_if_ne (F : Fx C D cl tys cc nL Ts own) {a off : Int} (tgt : Nat) (hd : decode cc pc = .ok (.ifCond .ne off, 3)) (ht : (pc : Int) + off = (tgt : Int)) (h : (-2147483648 ≤ a ∧ a ≤ 2147483647)) (kt : ¬ a = 0 → Go C R D cl nL kc ns (ws) (tgt) (lv) (st)) (kf : a = 0 → Go C R D cl nL kc ns (ws) (pc + 3) (lv) (st)) : Go C R D cl nL kc ns (ws) (pc) (lv) (.int (iZ a) :: st) := by
  obtain ⟨p, l, e, s, m, args, below, meth, c, Q, A, H0⟩ := C
  obtain ⟨⟨hx, hb, hml, hown, hts⟩, hK, hA, hlk0⟩ := F
  intro H locs ls hP hD hS hl
  exact lv_if_ne hx hb hd ht (fun q => kt (fun z => q ((iZ_eq (b := 0) ⟨h, by decide⟩).mpr z)) H locs ls hP hD hS hl) (fun q => kf ((iZ_eq (b := 0) ⟨h, by decide⟩).mp q) H locs ls hP hD hS hl)
theorem z_icmp_lt (F : Fx C D cl tys cc nL Ts own) {a b off : Int} (tgt : Nat) (hd : decode cc pc = .ok (.if_icmp .lt off, 3)) (ht : (pc : Int) + off = (tgt : Int)) (h : (-2147483648 ≤ a ∧ a ≤ 2147483647) ∧ (-2147483648 ≤ b ∧ b ≤ 2147483647)) (kt : a < b → Go C R D cl nL kc ns (ws) (tgt) (lv) (st)) (kf : ¬ a < b → Go C R D cl nL kc ns (ws) (pc + 3) (lv) (st)) : Go C R D cl nL kc ns (ws) (pc) (lv) (.int (iZ b) :: .int (iZ a) :: st) := by
  obtain ⟨p, l, e, s, m, args, below, meth, c, Q, A, H0⟩ := C
  obtain ⟨⟨hx, hb, hml, hown, hts⟩, hK, hA, hlk0⟩ := F
  intro H locs ls hP hD hS hl
  exact lv_icmp_lt hx hb hd ht (fun q => kt ((iZ_lt h).mp q) H locs ls hP hD hS hl) (fun q => kf (fun z => q ((iZ_lt h).mpr z)) H locs ls hP hD hS hl)
theorem z_if_lt (F : Fx C D cl tys cc nL Ts own) {a off : Int} (tgt : Nat) (hd : decode cc pc = .ok (.ifCond .lt off, 3)) (ht : (pc : Int) + off = (tgt : Int)) (h : (-2147483648 ≤ a ∧ a ≤ 2147483647)) (kt : a < 0 → Go C R D cl nL kc ns (ws) (tgt) (lv) (st)) (kf : ¬ a < 0 → Go C R D cl nL kc ns (ws) (pc + 3) (lv) (st)) : Go C R D cl nL kc ns (ws) (pc) (lv) (.int (iZ a) :: st) := by
  obtain ⟨p, l, e, s, m, args, below, meth, c, Q, A, H0⟩ := C
  obtain ⟨⟨hx, hb, hml, hown, hts⟩, hK, hA, hlk0⟩ := F
  intro H locs ls hP hD hS hl
  exact lv_if_lt hx hb hd ht (fun q => kt ((iZ_lt (b := 0) ⟨h, by decide⟩).mp q) H locs ls hP hD hS hl) (fun q => kf (fun z => q ((iZ_lt (b := 0) ⟨h, by decide⟩).mpr z)) H locs ls hP hD hS hl)
theorem z_icmp_ge (F : Fx C D cl tys cc nL Ts own) {a b off : Int} (tgt : Nat) (hd : decode cc pc = .ok (.if_icmp .ge off, 3)) (ht : (pc : Int) + off = (tgt : Int)) (h : (-2147483648 ≤ a ∧ a ≤ 2147483647) ∧ (-2147483648 ≤ b ∧ b ≤ 2147483647)) (kt : b ≤ a → Go C R D cl nL kc ns (ws) (tgt) (lv) (st)) (kf : ¬ b ≤ a → Go C R D cl nL kc ns (ws) (pc + 3) (lv) (st)) : Go C R D cl nL kc ns (ws) (pc) (lv) (.int (iZ b) :: .int (iZ a) :: st) := by
  obtain ⟨p, l, e, s, m, args, below, meth, c, Q, A, H0⟩ := C
  obtain ⟨⟨hx, hb, hml, hown, hts⟩, hK, hA, hlk0⟩ := F
  intro H locs ls hP hD hS hl
  exact lv_icmp_ge hx hb hd ht (fun q => kt ((iZ_le ⟨h.2, h.1⟩).mp q) H locs ls hP hD hS hl) (fun q => kf (fun z => q ((iZ_le ⟨h.2, h.1⟩).mpr z)) H locs ls hP hD hS hl)
theorem z_if_ge (F : Fx C D cl tys cc nL Ts own) {a off : Int} (tgt : Nat) (hd : decode cc pc = .ok (.ifCond .ge off, 3)) (ht : (pc : Int) + off = (tgt : Int)) (h : (-2147483648 ≤ a ∧ a ≤ 2147483647)) (kt : 0 ≤ a → Go C R D cl nL kc ns (ws) (tgt) (lv) (st)) (kf : ¬ 0 ≤ a → Go C R D cl nL kc ns (ws) (pc + 3) (lv) (st)) : Go C R D cl nL kc ns (ws) (pc) (lv) (.int (iZ a) :: st) := by
  obtain ⟨p, l, e, s, m, args, below, meth, c, Q, A, H0⟩ := C
  obtain ⟨⟨hx, hb, hml, hown, hts⟩, hK, hA, hlk0⟩ := F
  intro H locs ls hP hD hS hl
  exact lv_if_ge hx hb hd ht (fun q => kt ((iZ_le (a := 0) ⟨by decide, h⟩).mp q) H locs ls hP hD hS hl) (fun q => kf (fun z => q ((iZ_le (a := 0) ⟨by decide, h⟩).mpr z)) H locs ls hP hD hS hl)
theorem z_icmp_gt (F : Fx C D cl tys cc nL Ts own) {a b off : Int} (tgt : Nat) (hd : decode cc pc = .ok (.if_icmp .gt off, 3)) (ht : (pc : Int) + off = (tgt : Int)) (h : (-2147483648 ≤ a ∧ a ≤ 2147483647) ∧ (-2147483648 ≤ b ∧ b ≤ 2147483647)) (kt : b < a → Go C R D cl nL kc ns (ws) (tgt) (lv) (st)) (kf : ¬ b < a → Go C R D cl nL kc ns (ws) (pc + 3) (lv) (st)) : Go C R D cl nL kc ns (ws) (pc) (lv) (.int (iZ b) :: .int (iZ a) :: st) := by
  obtain ⟨p, l, e, s, m, args, below, meth, c, Q, A, H0⟩ := C
  obtain ⟨⟨hx, hb, hml, hown, hts⟩, hK, hA, hlk0⟩ := F
  intro H locs ls hP hD hS hl
  exact lv_icmp_gt hx hb hd ht (fun q => kt ((iZ_lt ⟨h.2, h.1⟩).mp q) H locs ls hP hD hS hl) (fun q => kf (fun z => q ((iZ_lt ⟨h.2, h.1⟩).mpr z)) H locs ls hP hD hS hl)
theorem z_if_gt (F : Fx C D cl tys cc nL Ts own) {a off : Int} (tgt : Nat) (hd : decode cc pc = .ok (.ifCond .gt off, 3)) (ht : (pc : Int) + off = (tgt : Int)) (h : (-2147483648 ≤ a ∧ a ≤ 2147483647)) (kt : 0 < a → Go C R D cl nL kc ns (ws) (tgt) (lv) (st)) (kf : ¬ 0 < a → Go C R D cl nL kc ns (ws) (pc + 3) (lv) (st)) : Go C R D cl nL kc ns (ws) (pc) (lv) (.int (iZ a) :: st) := by
  obtain ⟨p, l, e, s, m, args, below, meth, c, Q, A, H0⟩ := C
  obtain ⟨⟨hx, hb, hml, hown, hts⟩, hK, hA, hlk0⟩ := F
  intro H locs ls hP hD hS hl
  exact lv_if_gt hx hb hd ht (fun q => kt ((iZ_lt (a := 0) ⟨by decide, h⟩).mp q) H locs ls hP hD hS hl) (fun q => kf (fun z => q ((iZ_lt (a := 0) ⟨by decide, h⟩).mpr z)) H locs ls hP hD hS hl)
theorem z_icmp_le (F : Fx C D cl tys cc nL Ts own) {a b off : Int} (tgt : Nat) (hd : decode cc pc = .ok (.if_icmp .le off, 3)) (ht : (pc : Int) + off = (tgt : Int)) (h : (-2147483648 ≤ a ∧ a ≤ 2147483647) ∧ (-2147483648 ≤ b ∧ b ≤ 2147483647)) (kt : a ≤ b → Go C R D cl nL kc ns (ws) (tgt) (lv) (st)) (kf : ¬ a ≤ b → Go C R D cl nL kc ns (ws) (pc + 3) (lv) (st)) : Go C R D cl nL kc ns (ws) (pc) (lv) (.int (iZ b) :: .int (iZ a) :: st) := by
  obtain ⟨p, l, e, s, m, args, below, meth, c, Q, A, H0⟩ := C
  obtain ⟨⟨hx, hb, hml, hown, hts⟩, hK, hA, hlk0⟩ := F
  intro H locs ls hP hD hS hl
  exact lv_icmp_le hx hb hd ht (fun q => kt ((iZ_le h).mp q) H locs ls hP hD hS hl) (fun q => kf (fun z => q ((iZ_le h).mpr z)) H locs ls hP hD hS hl)
theorem z_if_le (F : Fx C D cl tys cc nL Ts own) {a off : Int} (tgt : Nat) (hd : decode cc pc = .ok (.ifCond .le off, 3)) (ht : (pc : Int) + off = (tgt : Int)) (h : (-2147483648 ≤ a ∧ a ≤ 2147483647)) (kt : a ≤ 0 → Go C R D cl nL kc ns (ws) (tgt) (lv) (st)) (kf : ¬ a ≤ 0 → Go C R D cl nL kc ns (ws) (pc + 3) (lv) (st)) : Go C R D cl nL kc ns (ws) (pc) (lv) (.int (iZ a) :: st) := by
  obtain ⟨p, l, e, s, m, args, below, meth, c, Q, A, H0⟩ := C
  obtain ⟨⟨hx, hb, hml, hown, hts⟩, hK, hA, hlk0⟩ := F
  intro H locs ls hP hD hS hl
  exact lv_if_le hx hb hd ht (fun q => kt ((iZ_le (b := 0) ⟨h, by decide⟩).mp q) H locs ls hP hD hS hl) (fun q => kf (fun z => q ((iZ_le (b := 0) ⟨h, by decide⟩).mpr z)) H locs ls hP hD hS hl)
theorem z_goto (F : Fx C D cl tys cc nL Ts own) {off : Int} (tgt : Nat) (hd : decode cc pc = .ok (.goto off, 3)) (ht : (pc : Int) + off = (tgt : Int)) (k : Go C R D cl nL kc ns (ws) (tgt) (lv) (st)) : Go C R D cl nL kc ns (ws) (pc) (lv) (st) := by
  obtain ⟨p, l, e, s, m, args, below, meth, c, Q, A, H0⟩ := C
  obtain ⟨⟨hx, hb, hml, hown, hts⟩, hK, hA, hlk0⟩ := F
  intro H locs ls hP hD hS hl
  exact lv_goto hx hb hd ht (k H locs ls hP hD hS hl)
theorem z_tableOut (F : Fx C D cl tys cc nL Ts own) {dflt lo hi a : Int} {offs : Array Int} {len : Nat} (tgt : Nat) (hd : decode cc pc = .ok (.tableswitch dflt lo hi offs, len)) (hr : (-2147483648 ≤ a ∧ a ≤ 2147483647)) (h : a < lo ∨ hi < a) (ht : (pc : Int) + dflt = (tgt : Int)) (k : Go C R D cl nL kc ns (ws) (tgt) (lv) (st)) : Go C R D cl nL kc ns (ws) (pc) (lv) (.int (iZ a) :: st) := by
  obtain ⟨p, l, e, s, m, args, below, meth, c, Q, A, H0⟩ := C
  obtain ⟨⟨hx, hb, hml, hown, hts⟩, hK, hA, hlk0⟩ := F
  intro H locs ls hP hD hS hl
  exact lv_tableOut hx hb hd (by rw [iZ_toInt hr]; exact h) ht (k H locs ls hP hD hS hl)
theorem z_tableIn (F : Fx C D cl tys cc nL Ts own) {dflt lo hi off : Int} (a : Int) {offs : Array Int} {len : Nat} (tgt : Nat) (hd : decode cc pc = .ok (.tableswitch dflt lo hi offs, len)) (hr : (-2147483648 ≤ a ∧ a ≤ 2147483647)) (h1 : ¬ a < lo) (h2 : ¬ hi < a) (ho : offs[(a - lo).toNat]? = some off) (ht : (pc : Int) + off = (tgt : Int)) (k : Go C R D cl nL kc ns (ws) (tgt) (lv) (st)) : Go C R D cl nL kc ns (ws) (pc) (lv) (.int (iZ a) :: st) := by
  obtain ⟨p, l, e, s, m, args, below, meth, c, Q, A, H0⟩ := C
  obtain ⟨⟨hx, hb, hml, hown, hts⟩, hK, hA, hlk0⟩ := F
  intro H locs ls hP hD hS hl
  exact lv_tableIn hx hb hd (by rw [iZ_toInt hr]; exact h1) (by rw [iZ_toInt hr]; exact h2) (by rw [iZ_toInt hr]; exact ho) ht (k H locs ls hP hD hS hl)
theorem z_perm (F : Fx C D cl tys cc nL Ts own) {ws' : va_W} (is : List Nat) (hn : va_nd is = true) (hs : is.map (fun i => ws[i]?) = ws'.map some) (k : Go C R D cl nL kc ns (ws') (pc) (lv) (st)) : Go C R D cl nL kc ns (ws) (pc) (lv) (st) := by
  obtain ⟨p, l, e, s, m, args, below, meth, c, Q, A, H0⟩ := C
  obtain ⟨⟨hx, hb, hml, hown, hts⟩, hK, hA, hlk0⟩ := F
  intro H locs ls hP hD hS hl
  exact k H locs ls (fun i q hq => by
      have h1 : (is.map (fun i => ws[i]?))[i]? = some (some q) := by rw [hs, List.getElem?_map, hq]; rfl
      rw [List.getElem?_map] at h1
      cases hi : is[i]? with
      | none => rw [hi] at h1; cases h1
      | some i2 => rw [hi] at h1; exact hP i2 q (Option.some.inj h1)) (hD.sub is hn hs) hS hl
theorem z_lv (F : Fx C D cl tys cc nL Ts own) {lv' : List (Nat × Value)} (is : List Nat) (hs : lv_pick lv is = lv') (k : Go C R D cl nL kc ns (ws) (pc) (lv') (st)) : Go C R D cl nL kc ns (ws) (pc) (lv) (st) := by
  obtain ⟨p, l, e, s, m, args, below, meth, c, Q, A, H0⟩ := C
  obtain ⟨⟨hx, hb, hml, hown, hts⟩, hK, hA, hlk0⟩ := F
  intro H locs ls hP hD hS hl
  exact k H locs ls hP hD hS (lv_sub hl is hs)
theorem z_widen (F : Fx C D cl tys cc nL Ts own) {k2 n2 : Nat} (h1 : kc ≤ k2) (h2 : ns ≤ n2) (k : Go C R D cl nL k2 n2 ws pc lv st) : Go C R D cl nL kc ns (ws) (pc) (lv) (st) := by
  obtain ⟨p, l, e, s, m, args, below, meth, c, Q, A, H0⟩ := C
  obtain ⟨⟨hx, hb, hml, hown, hts⟩, hK, hA, hlk0⟩ := F
  intro H locs ls hP hD hS hl
  exact W.widen h1 h2 (k H locs ls hP hD hS hl)
theorem z_iald (F : Fx C D cl tys cc nL Ts own) {a : Nat} {cA : ClassId} {n : Nat} {z : Nat → Int} {i : Int} (q0 : Nat) (ha : ws[q0]? = some (a, .inl (cA, n, .inl (zf z)))) (ht : tys[0]? = some (cA, .int)) (hd : decode cc pc = .ok (.iaload, 1)) (hn : n < 2147483648) (hi : 0 ≤ i ∧ i < n) (k : Go C R D cl nL kc ns (ws) (pc + 1) (lv) (.int (iZ (z i.toNat)) :: st)) : Go C R D cl nL kc ns (ws) (pc) (lv) (.int (iZ i) :: .ref a :: st) := by
  obtain ⟨p, l, e, s, m, args, below, meth, c, Q, A, H0⟩ := C
  obtain ⟨⟨hx, hb, hml, hown, hts⟩, hK, hA, hlk0⟩ := F
  intro H locs ls hP hD hS hl
  refine va_iald hx hb hK hP q0 0 ha ht (iZ_in hi hn) hd ?_
  rw [iZ_cl ⟨hi.1, by omega⟩]
  exact k H locs ls hP hD hS hl
theorem z_iast (F : Fx C D cl tys cc nL Ts own) {ws' : va_W} {a : Nat} {cA : ClassId} {n : Nat} {z : Nat → Int} {i v : Int} (q0 : Nat) (ha : ws[q0]? = some (a, .inl (cA, n, .inl (zf z)))) (ht : tys[0]? = some (cA, .int)) (hd : decode cc pc = .ok (.iastore, 1)) (hn : n < 2147483648) (hi : 0 ≤ i ∧ i < n) (hw : ws.set q0 (a, .inl (cA, n, .inl (zf (zu z i.toNat (v))))) = ws') (k : Go C R D cl nL kc ns (ws') (pc + 1) (lv) (st)) : Go C R D cl nL kc ns (ws) (pc) (lv) (.int (iZ v) :: .int (iZ i) :: .ref a :: st) := by
  obtain ⟨p, l, e, s, m, args, below, meth, c, Q, A, H0⟩ := C
  obtain ⟨⟨hx, hb, hml, hown, hts⟩, hK, hA, hlk0⟩ := F
  intro H locs ls hP hD hS hl
  refine va_iast hx hb hK hP hD hS q0 0 ha ht (iZ_in hi hn) hd (fun H locs hP hD hS => ?_)
  rw [iZ_cl ⟨hi.1, by omega⟩, zf_upd] at hP hD
  rw [hw] at hP hD
  exact k H locs ls hP hD hS hl
theorem z_bald (F : Fx C D cl tys cc nL Ts own) {a : Nat} {cA : ClassId} {n : Nat} {z : Nat → Int} {i : Int} (q0 : Nat) (ha : ws[q0]? = some (a, .inl (cA, n, .inl (zf z)))) (ht : tys[1]? = some (cA, .byte)) (hd : decode cc pc = .ok (.baload, 1)) (hn : n < 2147483648) (hi : 0 ≤ i ∧ i < n) (k : Go C R D cl nL kc ns (ws) (pc + 1) (lv) (.int (iZ (z i.toNat)) :: st)) : Go C R D cl nL kc ns (ws) (pc) (lv) (.int (iZ i) :: .ref a :: st) := by
  obtain ⟨p, l, e, s, m, args, below, meth, c, Q, A, H0⟩ := C
  obtain ⟨⟨hx, hb, hml, hown, hts⟩, hK, hA, hlk0⟩ := F
  intro H locs ls hP hD hS hl
  refine va_bald hx hb hK hP q0 1 ha ht (iZ_in hi hn) hd ?_
  rw [iZ_cl ⟨hi.1, by omega⟩]
  exact k H locs ls hP hD hS hl
theorem z_bast (F : Fx C D cl tys cc nL Ts own) {ws' : va_W} {a : Nat} {cA : ClassId} {n : Nat} {z : Nat → Int} {i v : Int} (q0 : Nat) (ha : ws[q0]? = some (a, .inl (cA, n, .inl (zf z)))) (ht : tys[1]? = some (cA, .byte)) (hd : decode cc pc = .ok (.bastore, 1)) (hn : n < 2147483648) (hi : 0 ≤ i ∧ i < n) (hw : ws.set q0 (a, .inl (cA, n, .inl (zf (zu z i.toNat (v.bmod 256))))) = ws') (k : Go C R D cl nL kc ns (ws') (pc + 1) (lv) (st)) : Go C R D cl nL kc ns (ws) (pc) (lv) (.int (iZ v) :: .int (iZ i) :: .ref a :: st) := by
  obtain ⟨p, l, e, s, m, args, below, meth, c, Q, A, H0⟩ := C
  obtain ⟨⟨hx, hb, hml, hown, hts⟩, hK, hA, hlk0⟩ := F
  intro H locs ls hP hD hS hl
  refine va_bast hx hb hK hP hD hS q0 1 ha ht (iZ_in hi hn) hd (fun H locs hP hD hS => ?_)
  rw [iZ_cl ⟨hi.1, by omega⟩, vp_nar_byte, iZ_b, zf_upd] at hP hD
  rw [hw] at hP hD
  exact k H locs ls hP hD hS hl
theorem z_zald (F : Fx C D cl tys cc nL Ts own) {a : Nat} {cA : ClassId} {n : Nat} {z : Nat → Int} {i : Int} (q0 : Nat) (ha : ws[q0]? = some (a, .inl (cA, n, .inl (zf z)))) (ht : tys[2]? = some (cA, .boolean)) (hd : decode cc pc = .ok (.baload, 1)) (hn : n < 2147483648) (hi : 0 ≤ i ∧ i < n) (k : Go C R D cl nL kc ns (ws) (pc + 1) (lv) (.int (iZ (z i.toNat)) :: st)) : Go C R D cl nL kc ns (ws) (pc) (lv) (.int (iZ i) :: .ref a :: st) := by
  obtain ⟨p, l, e, s, m, args, below, meth, c, Q, A, H0⟩ := C
  obtain ⟨⟨hx, hb, hml, hown, hts⟩, hK, hA, hlk0⟩ := F
  intro H locs ls hP hD hS hl
  refine va_zald hx hb hK hP q0 2 ha ht (iZ_in hi hn) hd ?_
  rw [iZ_cl ⟨hi.1, by omega⟩]
  exact k H locs ls hP hD hS hl
theorem z_zast (F : Fx C D cl tys cc nL Ts own) {ws' : va_W} {a : Nat} {cA : ClassId} {n : Nat} {z : Nat → Int} {i v : Int} (q0 : Nat) (ha : ws[q0]? = some (a, .inl (cA, n, .inl (zf z)))) (ht : tys[2]? = some (cA, .boolean)) (hd : decode cc pc = .ok (.bastore, 1)) (hn : n < 2147483648) (hi : 0 ≤ i ∧ i < n) (hw : ws.set q0 (a, .inl (cA, n, .inl (zf (zu z i.toNat (v % 2))))) = ws') (k : Go C R D cl nL kc ns (ws') (pc + 1) (lv) (st)) : Go C R D cl nL kc ns (ws) (pc) (lv) (.int (iZ v) :: .int (iZ i) :: .ref a :: st) := by
  obtain ⟨p, l, e, s, m, args, below, meth, c, Q, A, H0⟩ := C
  obtain ⟨⟨hx, hb, hml, hown, hts⟩, hK, hA, hlk0⟩ := F
  intro H locs ls hP hD hS hl
  refine va_zast hx hb hK hP hD hS q0 2 ha ht (iZ_in hi hn) hd (fun H locs hP hD hS => ?_)
  rw [iZ_cl ⟨hi.1, by omega⟩, show vp_nar .boolean (iZ v) = iZ v &&& 1 from rfl, iZ_and1, zf_upd] at hP hD
  rw [hw] at hP hD
  exact k H locs ls hP hD hS hl
theorem z_lald (F : Fx C D cl tys cc nL Ts own) {a : Nat} {cA : ClassId} {n : Nat} {f : Nat → Int64} {i : Int} (q0 : Nat) (ha : ws[q0]? = some (a, .inl (cA, n, .inr (.inl f)))) (ht : tys[3]? = some (cA, .long)) (hd : decode cc pc = .ok (.laload, 1)) (hn : n < 2147483648) (hi : 0 ≤ i ∧ i < n) (k : Go C R D cl nL kc ns (ws) (pc + 1) (lv) (.long (f i.toNat) :: st)) : Go C R D cl nL kc ns (ws) (pc) (lv) (.int (iZ i) :: .ref a :: st) := by
  obtain ⟨p, l, e, s, m, args, below, meth, c, Q, A, H0⟩ := C
  obtain ⟨⟨hx, hb, hml, hown, hts⟩, hK, hA, hlk0⟩ := F
  intro H locs ls hP hD hS hl
  refine va_lald hx hb hK hP q0 3 ha ht (iZ_in hi hn) hd ?_
  rw [iZ_cl ⟨hi.1, by omega⟩]
  exact k H locs ls hP hD hS hl
theorem z_last (F : Fx C D cl tys cc nL Ts own) {ws' : va_W} {a : Nat} {cA : ClassId} {n : Nat} {f : Nat → Int64} {i : Int} {v : Int64} (q0 : Nat) (ha : ws[q0]? = some (a, .inl (cA, n, .inr (.inl f)))) (ht : tys[3]? = some (cA, .long)) (hd : decode cc pc = .ok (.lastore, 1)) (hn : n < 2147483648) (hi : 0 ≤ i ∧ i < n) (hw : ws.set q0 (a, .inl (cA, n, .inr (.inl (vp_updL f i.toNat v)))) = ws') (k : Go C R D cl nL kc ns (ws') (pc + 1) (lv) (st)) : Go C R D cl nL kc ns (ws) (pc) (lv) (.long v :: .int (iZ i) :: .ref a :: st) := by
  obtain ⟨p, l, e, s, m, args, below, meth, c, Q, A, H0⟩ := C
  obtain ⟨⟨hx, hb, hml, hown, hts⟩, hK, hA, hlk0⟩ := F
  intro H locs ls hP hD hS hl
  refine va_last hx hb hK hP hD hS q0 3 ha ht (iZ_in hi hn) hd (fun H locs hP hD hS => ?_)
  rw [iZ_cl ⟨hi.1, by omega⟩, hw] at hP hD
  exact k H locs ls hP hD hS hl
theorem z_alen (F : Fx C D cl tys cc nL Ts own) {a : Nat} {cA : ClassId} {x : vp_A} {ty : FieldType} (q0 t0 : Nat) (ha : ws[q0]? = some (a, .inl (cA, x))) (ht : tys[t0]? = some (cA, ty)) (hd : decode cc pc = .ok (.arraylength, 1)) (k : Go C R D cl nL kc ns (ws) (pc + 1) (lv) (.int (iZ (x.1 : Int)) :: st)) : Go C R D cl nL kc ns (ws) (pc) (lv) (.ref a :: st) := by
  obtain ⟨p, l, e, s, m, args, below, meth, c, Q, A, H0⟩ := C
  obtain ⟨⟨hx, hb, hml, hown, hts⟩, hK, hA, hlk0⟩ := F
  intro H locs ls hP hD hS hl
  exact va_alen hx hb hK hP q0 t0 ha ht (iZ_nat x.1) hd (k H locs ls hP hD hS hl)
theorem z_get (F : Fx C D cl tys cc nL Ts own) {a ci N index : Nat} {Cn : String} {T : u_T} {fs : List Value} {v : Value} (q0 k : Nat) (hin : ∀ w ∈ u_ws Cn T N, w ∈ Ts) (he : ws[q0]? = some (a, .inr (ci, fs))) (hc : cl[ci]? = some (Cn, T, N)) (hk : k < N) (hlk : Cond.fieldLink own index (T k).1 (T k).2.1 (T k).2.2.1 ∈ Ts) (hv : fs[k]? = some v) (hd : decode cc pc = .ok (.getfield index, 3)) (kk : Go C R D cl nL kc ns (ws) (pc + 3) (lv) (v :: st)) : Go C R D cl nL kc ns (ws) (pc) (lv) (.ref a :: st) := by
  obtain ⟨p, l, e, s, m, args, below, meth, c, Q, A, H0⟩ := C
  obtain ⟨⟨hx, hb, hml, hown, hts⟩, hK, hA, hlk0⟩ := F
  intro H locs ls hP hD hS hl
  exact va_get hx hb hts hin hown hK hP q0 he hc k hk (hts _ hlk) (fun _ h => h) hv hd (kk H locs ls hP hD hS hl)
theorem z_put (F : Fx C D cl tys cc nL Ts own) {ws' : va_W} {a ci N index : Nat} {Cn : String} {T : u_T} {fs : List Value} {v : Value} {ty : FieldType} (q0 k : Nat) (hin : ∀ w ∈ u_ws Cn T N, w ∈ Ts) (ty0 : Nat → FieldType) (hty : ∀ k, k < N → parseFieldDescriptor (T k).2.2.1 = some (ty0 k)) (hnm : ∀ a, a < N → ∀ b, b < N → a ≠ b → (T a).2.1 ≠ (T b).2.1) (he : ws[q0]? = some (a, .inr (ci, fs))) (hc : cl[ci]? = some (Cn, T, N)) (hk : k < N) (hlk : Cond.fieldLink own index (T k).1 (T k).2.1 (T k).2.2.1 ∈ Ts) (hfin : (T k).2.2.2 = false) (hte : ty0 k = ty) (hn : narrow ty v = v) (hfit : fits ty v = true) (hl0 : k < fs.length) (hd : decode cc pc = .ok (.putfield index, 3)) (hw : ws.set q0 (a, .inr (ci, fs.set k v)) = ws') (kk : Go C R D cl nL kc ns (ws') (pc + 3) (lv) (st)) : Go C R D cl nL kc ns (ws) (pc) (lv) (v :: .ref a :: st) := by
  obtain ⟨p, l, e, s, m, args, below, meth, c, Q, A, H0⟩ := C
  obtain ⟨⟨hx, hb, hml, hown, hts⟩, hK, hA, hlk0⟩ := F
  intro H locs ls hP hD hS hl
  refine va_put hx hb hts hin ty0 hty hnm hown hK hP hD hS q0 he hc k hk (hts _ hlk) (fun _ h => h) hfin (by rw [hty k hk, hte]) hn hfit hl0 hd (fun H locs hP hD hS => ?_)
  rw [hw] at hP hD
  exact kk H locs ls hP hD hS hl
theorem z_putF (F : Fx C D cl tys cc nL Ts own) {ws' : va_W} {a ci N index : Nat} {Cn : String} {T : u_T} {fs : List Value} {v : Value} {ty : FieldType} (q0 k : Nat) (hnmI : zNm C = "<init>") (hin : ∀ w ∈ u_ws Cn T N, w ∈ Ts) (ty0 : Nat → FieldType) (hty : ∀ k, k < N → parseFieldDescriptor (T k).2.2.1 = some (ty0 k)) (hnm : ∀ a, a < N → ∀ b, b < N → a ≠ b → (T a).2.1 ≠ (T b).2.1) (he : ws[q0]? = some (a, .inr (ci, fs))) (hc : cl[ci]? = some (Cn, T, N)) (hk : k < N) (hlk : Cond.fieldLink own index (T k).1 (T k).2.1 (T k).2.2.1 ∈ Ts) (hfin : (T k).2.2.2 = true) (hdecl : (T k).1 = own) (hte : ty0 k = ty) (hn : narrow ty v = v) (hfit : fits ty v = true) (hl0 : k < fs.length) (hd : decode cc pc = .ok (.putfield index, 3)) (hw : ws.set q0 (a, .inr (ci, fs.set k v)) = ws') (kk : Go C R D cl nL kc ns (ws') (pc + 3) (lv) (st)) : Go C R D cl nL kc ns (ws) (pc) (lv) (v :: .ref a :: st) := by
  obtain ⟨p, l, e, s, m, args, below, meth, c, Q, A, H0⟩ := C
  obtain ⟨⟨hx, hb, hml, hown, hts⟩, hK, hA, hlk0⟩ := F
  intro H locs ls hP hD hS hl
  refine va_putF hx hb hts hin ty0 hty hnm hown hK hP hD hS q0 he hc k hk (hts _ hlk) (fun _ h => h) hfin hnmI hdecl (by rw [hty k hk, hte]) hn hfit hl0 hd (fun H locs hP hD hS => ?_)
  rw [hw] at hP hD
  exact kk H locs ls hP hD hS hl
theorem z_nm (F : Fx C D cl tys cc nL Ts own) {x : Int} (k : ∀ y : Int, y = x → Go C R D cl nL kc ns (ws) (pc) (lv) (.int (iZ y) :: st)) : Go C R D cl nL kc ns (ws) (pc) (lv) (.int (iZ x) :: st) := k x rfl
theorem z_norm (F : Fx C D cl tys cc nL Ts own) {x : Int} (k : ∀ y : Int, (-2147483648 ≤ y ∧ y ≤ 2147483647) → iZ x = iZ y → Go C R D cl nL kc ns (ws) (pc) (lv) (.int (iZ y) :: st)) : Go C R D cl nL kc ns (ws) (pc) (lv) (.int (iZ x) :: st) := by
  obtain ⟨y, h1, h2⟩ := iZ_ex (iZ x)
  rw [h2]
  exact k y h1 h2
theorem z_re (F : Fx C D cl tys cc nL Ts own) {ws' : va_W} {st' : List Value} (is : List Nat) (hn : va_nd is = true) (hs : is.map (fun i => ws[i]?) = ws'.map some) (hst : st = st') (k : Go C R D cl nL kc ns ws' pc lv st') : Go C R D cl nL kc ns (ws) (pc) (lv) (st) := by
  subst hst
  exact z_perm F is hn hs k
end ZROW
end
section
/-! contracts: a method over the cells wi alone, in words of its own; all methods share one list of words Ts -/
def Qo (D : va_G) (cl : List vw_C) (tys : List (ClassId × FieldType)) (A : Nat → Prop) (post : Option Value → va_W → Prop) : Array Value → State → Outcome → State → Prop :=
  fun _ st oc t => (∃ (v : Option Value) (wo : va_W), oc = .returned v ∧ post v wo ∧ va_P D cl wo t.heap ∧ va_K D cl tys t ∧ va_D A wo) ∧ va_F A st t
def Pi (D : va_G) (cl : List vw_C) (tys : List (ClassId × FieldType)) (sz : Nat) (wi : va_W) : State → Prop :=
  fun U => U.heap.size = sz ∧ va_P D cl wi U.heap ∧ va_K D cl tys U ∧ va_D (fun _ => True) wi
theorem Pi.blind {D : va_G} {cl : List vw_C} {tys : List (ClassId × FieldType)} {sz : Nat} {wi : va_W} {av : List Value} : FrameBlind (va_Pc av (Pi D cl tys sz wi)) := fun a U g mk q => by
  obtain ⟨q0, q1, qP, qK, qD⟩ := q
  exact ⟨q0, q1, qP, va_K.moved (u := U) (U := U.calling g mk a) (Vm.Alike.refl U.vm) qK, qD⟩
def Ct (Ts : List Cond) (l : Launch) (y : MethodName) (bytes : ByteArray) (maxL : Nat) (ret : Option FieldType) (rm : Room) (mc ms : Nat) (D : va_G) (cl : List vw_C) (tys : List (ClassId × FieldType)) (av : List Value) (wi : va_W) (post : Option Value → va_W → Prop) : Prop :=
  ∀ sz : Nat, Met l y (Cond.code y bytes maxL ret :: Ts) rm (va_Pc av (Pi D cl tys sz wi)) (Qo D cl tys (va_A wi sz) post) mc ms (va_A wi sz)
def Rt (C : ZC) (ret : Option FieldType) (mc ms : Nat) (D : va_G) (cl : List vw_C) (tys : List (ClassId × FieldType)) (post : Option Value → va_W → Prop) : Prop := match C with
  | (p, l, e, s, m, args, below, meth, c, Q, A, H0) => meth.sig.returnType = ret ∧ H0 = s.heap ∧ Q = MQ below (Qo D cl tys A post) args s mc ms A
theorem ct_of {Ts : List Cond} {l : Launch} {y : MethodName} {bytes : ByteArray} {maxL : Nat} {ret : Option FieldType} {rm : Room} {mc ms : Nat} {D : va_G} {cl : List vw_C} {tys : List (ClassId × FieldType)} {av : List Value} {wi : va_W} {post : Option Value → va_W → Prop} {own : String} {lv : List (Nat × Value)}
    (hy : plainFor y = true) (ho : y.cls = own) (hn : (lg_sl av).length ≤ maxL) (hlv : lv_args 0 av = lv)
    (body : ∀ C : ZC, Fx C D cl tys bytes maxL Ts own → Rt C ret mc ms D cl tys post → zNm C = y.name → zl C = l → Go C rm D cl maxL 0 0 wi 0 lv []) : Ct Ts l y bytes maxL ret rm mc ms D cl tys av wi post := by
  intro sz
  refine va_MetF (cc := bytes) (maxL := maxL) (ret := ret) hy rfl ?_
  intro p e s m args below meth c s₁ B hml hv
  obtain ⟨rfl, hsz, hP, hK, hD0⟩ := hv
  have hts := atoms_spec (ws := Cond.code y bytes maxL ret :: Ts) B.pre
  have hown : s.vm.findClass own = some m.cls := by rw [← ho]; exact findClass_of_methodNamed B.named
  have hin : meth.name = y.name := (name_of_methodNamed B.named B.method).1
  subst hsz
  have hD := hD0.self (sz := s.heap.size)
  have hl := lv_entry av (n := maxL) hn
  rw [lg_entry_eq]
  rw [hlv] at hl
  exact body (p, l, e, s, m, av.toArray, below, meth, c, MQ below (Qo D cl tys (va_A wi s.heap.size) post) av.toArray s mc ms (va_A wi s.heap.size), va_A wi s.heap.size, s.heap)
    ⟨⟨B.exec, B.bytes, hml, hown, fun w hw => hts w (List.mem_cons_of_mem _ hw)⟩, hK, fun q h => Or.inr h, B.notSynchronized⟩ ⟨B.returns, rfl, rfl⟩ hin rfl s.heap [] _ hP hD va_S.rf hl
section ZRET
variable {C : ZC} {R : Room} {D : va_G} {cl : List vw_C} {tys : List (ClassId × FieldType)} {cc : ByteArray} {nL : Nat} {Ts : List Cond} {own : String} {kc ns mc ms : Nat} {ws : va_W} {pc : Nat} {lv : List (Nat × Value)} {st : List Value} {post : Option Value → va_W → Prop}
theorem z_iret (F : Fx C D cl tys cc nL Ts own) (hr : Rt C (some .int) mc ms D cl tys post) {v : Int32} (hd : decode cc pc = .ok (.ireturn, 1)) (hk : kc ≤ mc ∧ ns ≤ ms) (hp : post (some (.int v)) ws) : Go C R D cl nL kc ns ws pc lv [.int v] := by
  obtain ⟨p, l, e, s, m, args, below, meth, c, Q, A, H0⟩ := C
  obtain ⟨⟨hx, hb, hml, hown, hts⟩, hK, hA, hlk⟩ := F
  obtain ⟨hrt, rfl, rfl⟩ := hr
  intro H locs ls hP hD hS hl
  refine W.widen hk.1 hk.2 ?_
  exact W.iret hx hb hrt (fun t ht hW => ⟨⟨_, ws, rfl, hp, by rw [ht]; exact hP, va_K.moved hW.alike hK, hD⟩, hS.F ht⟩) hS.2.2 hd hlk
theorem z_zret (F : Fx C D cl tys cc nL Ts own) {ty : FieldType} (hr : Rt C (some ty) mc ms D cl tys post) {v : Int32} (hnr : narrow ty (.int v) = .int v) (hd : decode cc pc = .ok (.ireturn, 1)) (hk : kc ≤ mc ∧ ns ≤ ms) (hp : post (some (.int v)) ws) : Go C R D cl nL kc ns ws pc lv [.int v] := by
  obtain ⟨p, l, e, s, m, args, below, meth, c, Q, A, H0⟩ := C
  obtain ⟨⟨hx, hb, hml, hown, hts⟩, hK, hA, hlk⟩ := F
  obtain ⟨hrt, rfl, rfl⟩ := hr
  intro H locs ls hP hD hS hl
  refine W.widen hk.1 hk.2 ?_
  exact W.zret hx hb hrt hnr (fun t ht hW => ⟨⟨_, ws, rfl, hp, by rw [ht]; exact hP, va_K.moved hW.alike hK, hD⟩, hS.F ht⟩) hS.2.2 hd hlk
theorem z_lret (F : Fx C D cl tys cc nL Ts own) (hr : Rt C (some .long) mc ms D cl tys post) {v : Int64} (hd : decode cc pc = .ok (.lreturn, 1)) (hk : kc ≤ mc ∧ ns ≤ ms) (hp : post (some (.long v)) ws) : Go C R D cl nL kc ns ws pc lv [.long v] := by
  obtain ⟨p, l, e, s, m, args, below, meth, c, Q, A, H0⟩ := C
  obtain ⟨⟨hx, hb, hml, hown, hts⟩, hK, hA, hlk⟩ := F
  obtain ⟨hrt, rfl, rfl⟩ := hr
  intro H locs ls hP hD hS hl
  refine W.widen hk.1 hk.2 ?_
  exact W.lret hx hb hrt (fun t ht hW => ⟨⟨_, ws, rfl, hp, by rw [ht]; exact hP, va_K.moved hW.alike hK, hD⟩, hS.F ht⟩) hS.2.2 hd hlk
theorem z_vret (F : Fx C D cl tys cc nL Ts own) (hr : Rt C none mc ms D cl tys post) (hd : decode cc pc = .ok (.return_, 1)) (hk : kc ≤ mc ∧ ns ≤ ms) (hp : post none ws) : Go C R D cl nL kc ns ws pc lv [] := by
  obtain ⟨p, l, e, s, m, args, below, meth, c, Q, A, H0⟩ := C
  obtain ⟨⟨hx, hb, hml, hown, hts⟩, hK, hA, hlk⟩ := F
  obtain ⟨hrt, rfl, rfl⟩ := hr
  intro H locs ls hP hD hS hl
  refine W.widen hk.1 hk.2 ?_
  exact W.vret hx hb hrt (fun t ht hW => ⟨⟨_, ws, rfl, hp, by rw [ht]; exact hP, va_K.moved hW.alike hK, hD⟩, hS.F ht⟩) hS.2.2 hd hlk
end ZRET
theorem z_run {p : Program} {l : Launch} {e : Env} {R : Room} {s : State} {m : MethodId} {args : Array Value} {below : List Frame} {meth : Method} {c : Code} {Q : State → Prop} {A : Nat → Prop} {H0 H : Heap} {D : va_G} {cl : List vw_C} {tys : List (ClassId × FieldType)} {nL kc ns mc ms pc : Nat} {lv : List (Nat × Value)} {st rest : List Value} {ws wc wr : va_W} {locs : List Loc} {ls : Array Slot} {post : Option Value → va_W → Prop} {av : Array Value}
    (hA : ∀ q, H0.size ≤ q → A q) (hP : va_P D cl ws H) (hD : va_D A ws) (hS : va_S A H0 H locs) (hl : lv_has ls nL lv)
    (hr : va_Run p l e R s m args below meth c H locs kc ns mc ms (F0 m pc ls st) rest (Qo D cl tys (va_A wc H.size) post av) (va_A wc H.size))
    (isC isR : List Nat) (hC : isC.map (fun i => ws[i]?) = wc.map some) (hR : isR.map (fun i => ws[i]?) = wr.map some) (hRn : va_nd isR = true) (hdis : ∀ i ∈ isR, i ∉ isC)
    (kk : ∀ (v : Option Value) (wo : va_W), post v wo → Go (p, l, e, s, m, args, below, meth, c, Q, A, H0) R D cl nL (kc + mc) (ns + ms) (wr ++ wo) (pc + 3) lv (v.toList ++ rest)) :
    W p l e R s m args below meth c H locs kc ns Q (F0 m pc ls st) := by
  have hF := va_free (wc := wc) hD hS hA isC hC
  intro T hT X
  obtain ⟨v, st₀, t, T', L, h0, X', hL, e1, e2, ⟨⟨v', wo, hv, hp, hP1, hK1, hD1⟩, hz, hk⟩, stp⟩ := hr T hT X
  cases hv
  rw [h0] at hz hk
  have hP1' : va_P D cl wo T'.heap := by rw [e1]; exact hP1
  obtain ⟨hPj, hDj⟩ := va_join (wr := wr) (w1 := wo) (H1 := T'.heap) hP hD isC isR hC hR hRn hdis (fun q h1 h2 => by rw [e1]; exact hk q h1 h2) hF hP1' hD1
  obtain ⟨t2, a1, b1⟩ := kk v wo hp T'.heap (locs ++ L) ls hPj hDj ⟨Nat.le_trans hS.1 (by rw [e1]; exact hz), fun q h1 h2 => by rw [e1, hk q (Nat.lt_of_lt_of_le h1 hS.1) (fun z => h2 (hF q z))]; exact hS.2.1 q h1 h2, fun q hq => by
      rcases List.mem_append.mp hq with h | h
      · exact hS.2.2 q h
      · exact hF _ (hL q h)⟩ hl T' rfl X'
  exact ⟨t2, stp t2 a1, b1⟩
abbrev Wg (Ts : List Cond) : Prop := ∀ w ∈ Ts, (w.onTables && w.keeps) = true ∨ ∃ ty, w = .arrayClass ty
theorem callB_ofT {Ts : List Cond} {R : Room} {s : State} {args : Array Value} {own : String} {index maxL mc ms : Nat} {y : MethodName} {bytes : ByteArray} {ret : Option FieldType} {rm : Room} (n : Nat) (ht : ∀ w ∈ Ts, w.before args s = true) (hg : Wg Ts) (hcode : Cond.code y bytes maxL ret ∈ Ts) (hrc : rm.cells = mc) (hrs : rm.slots = ms) (hini : Cond.initialized y.cls ∈ Ts) (hl : Cond.methodLink own index y ∈ Ts)
    (hd : y.cls ≠ "java/lang/invoke/MethodHandle" ∧ y.cls ≠ "java/lang/invoke/VarHandle" ∧ (parseMethodDescriptor y.desc).map (fun d => d.parameters.length) = some n) (hR : rm.frames + 1 ≤ R.frames ∧ 8 + (maxL + 11) + rm.locals ≤ R.locals) :
    CallB R s args own index y bytes maxL ret (Cond.code y bytes maxL ret :: Ts) rm mc ms n :=
  callB_of n ht (fun w h => by
    rcases List.mem_cons.mp h with rfl | h
    · exact ⟨hcode, hg _ hcode⟩
    · exact ⟨h, hg w h⟩) rfl hrc hrs (ht _ hini) (ht _ hl) hd hR
theorem sub_map {is : List Nat} {ws wc : va_W} (h : is.map (fun i => ws[i]?) = wc.map some) : is.filterMap (fun i => ws[i]?) = wc := by
  induction is generalizing wc with
  | nil => cases wc with
    | nil => rfl
    | cons a t => simp at h
  | cons a t ih => cases wc with
    | nil => simp at h
    | cons b u =>
      simp only [List.map_cons, List.cons.injEq] at h
      rw [List.filterMap_cons, h.1, ih h.2]
section ZCALL
variable {C : ZC} {R : Room} {D : va_G} {cl : List vw_C} {tys : List (ClassId × FieldType)} {cc bytes : ByteArray} {nL maxL index : Nat} {Ts : List Cond} {own : String} {kc ns mc ms : Nat} {ws wc wr : va_W} {pc : Nat} {lv : List (Nat × Value)} {st : List Value} {post : Option Value → va_W → Prop} {y : MethodName} {ret : Option FieldType} {rm : Room} {As rest : List Value} {b ci : Nat} {q : vw_C} {fs : List Value}
theorem z_callV (F : Fx C D cl tys cc nL Ts own) (hg : Wg Ts) (hct : Ct Ts (zl C) y bytes maxL ret rm mc ms D cl tys (.ref b :: As) wc post) (hcode : Cond.code y bytes maxL ret ∈ Ts) (hini : Cond.initialized y.cls ∈ Ts) (hlk : Cond.methodLink own index y ∈ Ts) (him : Cond.instanceMethod y ∈ Ts) (hse : Cond.selects q.1 y y ∈ Ts)
    (hrc : rm.cells = mc ∧ rm.slots = ms) (hd : y.cls ≠ "java/lang/invoke/MethodHandle" ∧ y.cls ≠ "java/lang/invoke/VarHandle" ∧ (parseMethodDescriptor y.desc).map (fun d => d.parameters.length) = some As.length) (hR : rm.frames + 1 ≤ R.frames ∧ 8 + (maxL + 11) + rm.locals ≤ R.locals)
    (q0 : Nat) (he : wc[q0]? = some (b, .inr (ci, fs))) (hc : cl[ci]? = some q) (hst : st = As.reverse ++ .ref b :: rest) (hroom : (rest.map fun v => v.category).sum ≤ 8) (hdg : decode cc pc = .ok (.invokevirtual index, 3)) (hf : kc + mc ≤ R.cells ∧ ns + ms ≤ R.slots)
    (isC isR : List Nat) (hC : isC.map (fun i => ws[i]?) = wc.map some) (hCn : va_nd isC = true) (hRr : isR.map (fun i => ws[i]?) = wr.map some) (hRn : va_nd isR = true) (hdis : ∀ i ∈ isR, i ∉ isC)
    (kk : ∀ (v : Option Value) (wo : va_W), post v wo → Go C R D cl nL (kc + mc) (ns + ms) (wr ++ wo) (pc + 3) lv (v.toList ++ rest)) : Go C R D cl nL kc ns ws pc lv st := by
  obtain ⟨p, l, e, s, m, args, below, meth, c, Q, A, H0⟩ := C
  obtain ⟨⟨hx, hb, hml, hown, hts⟩, hK, hA, hlk0⟩ := F
  intro H locs ls hP hD hS hl
  have hPc := hP.sub isC (sub_map hC)
  have hDc := hD.sub isC hCn hC
  refine z_run hA hP hD hS hl (va_runV (As := As) (rest := rest) (n := As.length) ⟨hx, hb, hml, hown, hts⟩ (hct H.size) ⟨callB_ofT _ hts hg hcode hrc.1 hrc.2 hini hlk hd hR, hts _ him, hts _ hse⟩ ⟨Pi.blind, va_recv hK hPc hc he, fun U hU hW => ⟨rfl, by rw [hU], by rw [hU]; exact hPc, va_K.moved hW.alike hK, hDc.weaken (fun _ _ _ _ => trivial)⟩⟩ rfl rfl hl.1 hst (lv_room hroom) hdg hf) isC isR hC hRr hRn hdis kk
theorem z_callS (F : Fx C D cl tys cc nL Ts own) (hg : Wg Ts) (hct : Ct Ts (zl C) y bytes maxL ret rm mc ms D cl tys As wc post) (hcode : Cond.code y bytes maxL ret ∈ Ts) (hini : Cond.initialized y.cls ∈ Ts) (hlk : Cond.methodLink own index y ∈ Ts) (hst0 : Cond.static y ∈ Ts)
    (hrc : rm.cells = mc ∧ rm.slots = ms) (hd : y.cls ≠ "java/lang/invoke/MethodHandle" ∧ y.cls ≠ "java/lang/invoke/VarHandle" ∧ (parseMethodDescriptor y.desc).map (fun d => d.parameters.length) = some As.length) (hR : rm.frames + 1 ≤ R.frames ∧ 8 + (maxL + 11) + rm.locals ≤ R.locals)
    (hst : st = As.reverse ++ rest) (hroom : (rest.map fun v => v.category).sum ≤ 8) (hdg : decode cc pc = .ok (.invokestatic index, 3)) (hf : kc + mc ≤ R.cells ∧ ns + ms ≤ R.slots)
    (isC isR : List Nat) (hC : isC.map (fun i => ws[i]?) = wc.map some) (hCn : va_nd isC = true) (hRr : isR.map (fun i => ws[i]?) = wr.map some) (hRn : va_nd isR = true) (hdis : ∀ i ∈ isR, i ∉ isC)
    (kk : ∀ (v : Option Value) (wo : va_W), post v wo → Go C R D cl nL (kc + mc) (ns + ms) (wr ++ wo) (pc + 3) lv (v.toList ++ rest)) : Go C R D cl nL kc ns ws pc lv st := by
  obtain ⟨p, l, e, s, m, args, below, meth, c, Q, A, H0⟩ := C
  obtain ⟨⟨hx, hb, hml, hown, hts⟩, hK, hA, hlk0⟩ := F
  intro H locs ls hP hD hS hl
  have hPc := hP.sub isC (sub_map hC)
  have hDc := hD.sub isC hCn hC
  refine z_run hA hP hD hS hl (va_runS (As := As) (rest := rest) (n := As.length) ⟨hx, hb, hml, hown, hts⟩ (hct H.size) ⟨callB_ofT _ hts hg hcode hrc.1 hrc.2 hini hlk hd hR, hts _ hst0⟩ ⟨Pi.blind, fun U hU hW => ⟨rfl, by rw [hU], by rw [hU]; exact hPc, va_K.moved hW.alike hK, hDc.weaken (fun _ _ _ _ => trivial)⟩⟩ rfl rfl hl.1 hst (lv_room hroom) hdg hf) isC isR hC hRr hRn hdis kk
theorem z_callI (F : Fx C D cl tys cc nL Ts own) (hg : Wg Ts) (hct : Ct Ts (zl C) y bytes maxL none rm mc ms D cl tys (.ref b :: As) wc post) (hcode : Cond.code y bytes maxL none ∈ Ts) (hini : Cond.initialized y.cls ∈ Ts) (hlk : Cond.methodLink own index y ∈ Ts) (him : Cond.instanceMethod y ∈ Ts) (hnm : y.name = "<init>")
    (hrc : rm.cells = mc ∧ rm.slots = ms) (hd : y.cls ≠ "java/lang/invoke/MethodHandle" ∧ y.cls ≠ "java/lang/invoke/VarHandle" ∧ (parseMethodDescriptor y.desc).map (fun d => d.parameters.length) = some As.length) (hR : rm.frames + 1 ≤ R.frames ∧ 8 + (maxL + 11) + rm.locals ≤ R.locals)
    (hst : st = As.reverse ++ .ref b :: rest) (hroom : (rest.map fun v => v.category).sum ≤ 8) (hdg : decode cc pc = .ok (.invokespecial index, 3)) (hf : kc + mc ≤ R.cells ∧ ns + ms ≤ R.slots)
    (isC isR : List Nat) (hC : isC.map (fun i => ws[i]?) = wc.map some) (hCn : va_nd isC = true) (hRr : isR.map (fun i => ws[i]?) = wr.map some) (hRn : va_nd isR = true) (hdis : ∀ i ∈ isR, i ∉ isC)
    (kk : ∀ (v : Option Value) (wo : va_W), post v wo → Go C R D cl nL (kc + mc) (ns + ms) (wr ++ wo) (pc + 3) lv (v.toList ++ rest)) : Go C R D cl nL kc ns ws pc lv st := by
  obtain ⟨p, l, e, s, m, args, below, meth, c, Q, A, H0⟩ := C
  obtain ⟨⟨hx, hb, hml, hown, hts⟩, hK, hA, hlk0⟩ := F
  intro H locs ls hP hD hS hl
  have hPc := hP.sub isC (sub_map hC)
  have hDc := hD.sub isC hCn hC
  refine z_run hA hP hD hS hl (va_runI (As := As) (rest := rest) (n := As.length) ⟨hx, hb, hml, hown, hts⟩ (hct H.size) ⟨callB_ofT _ hts hg hcode hrc.1 hrc.2 hini hlk hd hR, hnm, hts _ him⟩ ⟨Pi.blind, fun U hU hW => ⟨rfl, by rw [hU], by rw [hU]; exact hPc, va_K.moved hW.alike hK, hDc.weaken (fun _ _ _ _ => trivial)⟩⟩ rfl rfl hl.1 hst (lv_room hroom) hdg hf) isC isR hC hRr hRn hdis kk
theorem z_objInit (F : Fx C D cl tys cc nL Ts own) {a : Nat} (hlk : Cond.methodLink own index Lib.objectInit ∈ Ts) (him : Cond.instanceMethod Lib.objectInit ∈ Ts) (hcode : Cond.code Lib.objectInit ⟨#[0xb1]⟩ 1 none ∈ Ts) (hdg : decode cc pc = .ok (.invokespecial index, 3)) (hfr : 1 ≤ R.frames) (hlo : (st.map fun v => v.category).sum + 12 ≤ R.locals)
    (kk : Go C R D cl nL kc ns ws (pc + 3) lv st) : Go C R D cl nL kc ns ws pc lv (.ref a :: st) := by
  obtain ⟨p, l, e, s, m, args, below, meth, c, Q, A, H0⟩ := C
  obtain ⟨⟨hx, hb, hml, hown, hts⟩, hK, hA, hlk0⟩ := F
  intro H locs ls hP hD hS hl
  exact W.objInit hx hb hown (hts _ hlk) (hts _ him) (hts _ hcode) rfl (by rw [hml]; exact hl.1) rfl hdg hfr (by show 2 * 0 + _ + 12 ≤ _; omega) (kk H locs ls hP hD hS hl)
theorem z_new (F : Fx C D cl tys cc nL Ts own) {Cn : String} {T : u_T} {N : Nat} (hin : ∀ w ∈ u_ws Cn T N, w ∈ Ts) (ty : Nat → FieldType) (hty : ∀ k, k < N → parseFieldDescriptor (T k).2.2.1 = some (ty k)) (hcl : Cond.classLink own index Cn ∈ Ts) (hins : Cond.instantiable Cn N ∈ Ts) (hini : Cond.initialized Cn ∈ Ts) (hc : cl[ci]? = some (Cn, T, N)) (hfs : ∀ j, j < N → defaultValue (ty j) = vp_V fs j) (hf : kc + 1 ≤ R.cells ∧ ns + N ≤ R.slots) (hdg : decode cc pc = .ok (.new index, 3))
    (kk : ∀ a : Nat, Go C R D cl nL (kc + 1) (ns + N) (ws ++ [(a, .inr (ci, fs))]) (pc + 3) lv (.ref a :: st)) : Go C R D cl nL kc ns ws pc lv st := by
  obtain ⟨p, l, e, s, m, args, below, meth, c, Q, A, H0⟩ := C
  obtain ⟨⟨hx, hb, hml, hown, hts⟩, hK, hA, hlk0⟩ := F
  intro H locs ls hP hD hS hl
  exact va_new hx hb hts hin ty hty hown (hts _ hcl) (hts _ hins) (hts _ hini) hK hP hD hS hA hc hfs hf.1 hf.2 hdg (fun q H hP hD hS => kk q H locs ls hP hD hS hl)
theorem z_newa (F : Fx C D cl tys cc nL Ts own) {atype : ArrayType} {ty : FieldType} {cA : ClassId} (t0 : Nat) (harr : Cond.arrayClass ty ∈ Ts) (hty : newarray.typeOf atype = ty) (ht : tys[t0]? = some (cA, ty)) (hpr : ∀ (U : State) (c : ClassId), va_RA U c ty = (U.vm.findClass ("[" ++ ty.toString) = some c)) {i : Int} {N : Nat} {a0 : (Nat → Int32) ⊕ (Nat → Int64) ⊕ (Nat → UInt32) ⊕ (Nat → UInt64) ⊕ (Nat → Option Nat)} (ha : ∀ cA : ClassId, vp_cell cA (N, a0) = arrV cA N (fun _ => defaultValue ty)) (hi : 0 ≤ i ∧ i ≤ 2147483647) (hN : i.toNat = N) (hby : N * componentBytes ty ≤ 536870912) (hf : kc + 1 ≤ R.cells ∧ ns + N ≤ R.slots) (hdg : decode cc pc = .ok (.newarray atype, 2))
    (kk : ∀ a : Nat, Go C R D cl nL (kc + 1) (ns + N) (ws ++ [(a, .inl (cA, N, a0))]) (pc + 2) lv (.ref a :: st)) : Go C R D cl nL kc ns ws pc lv (.int (iZ i) :: st) := by
  obtain ⟨p, l, e, s, m, args, below, meth, c, Q, A, H0⟩ := C
  obtain ⟨⟨hx, hb, hml, hown, hts⟩, hK, hA, hlk0⟩ := F
  intro H locs ls hP hD hS hl
  subst hty
  refine va_newa hx hb (hts _ harr) rfl hK hP hD hS hA (N' := N) (a0 := (N, a0)) ha (fun q => ?_) (by rw [iZ_cl hi]; exact hN) hby hf.1 hf.2 hdg (fun q cA2 H hK2 hP hD hS => ?_)
  · have := (iZ_lt (a := i) (b := 0) ⟨⟨by omega, by omega⟩, by decide⟩).mp q
    omega
  · have h1 := (hK.2 t0 _ ht).2
    have h2 := (hK2.2 tys.length (cA2, newarray.typeOf atype) (by simp)).2
    dsimp only at h1 h2
    rw [hpr] at h1 h2
    have h3 : cA = cA2 := Option.some.inj (h1.symm.trans h2)
    subst h3
    exact kk q H locs ls hP hD hS hl
end ZCALL
section ZMATH
variable {C : ZC} {R : Room} {D : va_G} {cl : List vw_C} {tys : List (ClassId × FieldType)} {cc bytes : ByteArray} {nL maxL index : Nat} {Ts : List Cond} {own : String} {kc ns : Nat} {ws : va_W} {pc : Nat} {lv : List (Nat × Value)} {st : List Value}
theorem z_max (F : Fx C D cl tys cc nL Ts own) {a b : Int} (hlk : Cond.methodLink own index Lib.Math.max.name ∈ Ts) (hst : Cond.static Lib.Math.max.name ∈ Ts) (hini : Cond.initialized "java/lang/Math" ∈ Ts) (hcode : Cond.code Lib.Math.max.name Lib.Math.max.code 2 (some .int) ∈ Ts) (hfr : 1 ≤ R.frames) (hlo : (st.map fun v => v.category).sum + 13 ≤ R.locals) (hf : kc + 0 ≤ R.cells ∧ ns + 0 ≤ R.slots) (h : (-2147483648 ≤ a ∧ a ≤ 2147483647) ∧ (-2147483648 ≤ b ∧ b ≤ 2147483647)) (hdg : decode cc pc = .ok (.invokestatic index, 3))
    (k : Go C R D cl nL kc ns ws (pc + 3) lv (.int (iZ (max a b)) :: st)) : Go C R D cl nL kc ns ws pc lv (.int (iZ b) :: .int (iZ a) :: st) := by
  obtain ⟨p, l, e, s, m, args, below, meth, c, Q, A, H0⟩ := C
  obtain ⟨⟨hx, hb, hml, hown, hts⟩, hK, hA, hlk0⟩ := F
  intro H locs ls hP hD hS hl
  refine va_mmax hx hb (by rw [hml]; exact hl.1.symm) hown (hts _ hlk) (hts _ hst) (hts _ hini) (hts _ hcode) hfr hlo hf.1 hf.2 hdg ?_
  rw [iZ_max a b h]
  exact k H locs ls hP hD hS hl
theorem z_min (F : Fx C D cl tys cc nL Ts own) {a b : Int} (hlk : Cond.methodLink own index Lib.Math.min.name ∈ Ts) (hst : Cond.static Lib.Math.min.name ∈ Ts) (hini : Cond.initialized "java/lang/Math" ∈ Ts) (hcode : Cond.code Lib.Math.min.name Lib.Math.min.code 2 (some .int) ∈ Ts) (hfr : 1 ≤ R.frames) (hlo : (st.map fun v => v.category).sum + 13 ≤ R.locals) (hf : kc + 0 ≤ R.cells ∧ ns + 0 ≤ R.slots) (h : (-2147483648 ≤ a ∧ a ≤ 2147483647) ∧ (-2147483648 ≤ b ∧ b ≤ 2147483647)) (hdg : decode cc pc = .ok (.invokestatic index, 3))
    (k : Go C R D cl nL kc ns ws (pc + 3) lv (.int (iZ (min a b)) :: st)) : Go C R D cl nL kc ns ws pc lv (.int (iZ b) :: .int (iZ a) :: st) := by
  obtain ⟨p, l, e, s, m, args, below, meth, c, Q, A, H0⟩ := C
  obtain ⟨⟨hx, hb, hml, hown, hts⟩, hK, hA, hlk0⟩ := F
  intro H locs ls hP hD hS hl
  refine va_mmin hx hb (by rw [hml]; exact hl.1.symm) hown (hts _ hlk) (hts _ hst) (hts _ hini) (hts _ hcode) hfr hlo hf.1 hf.2 hdg ?_
  rw [iZ_min a b h]
  exact k H locs ls hP hD hS hl
theorem z_copy (F : Fx C D cl tys cc nL Ts own) {ws' : va_W} {a0 a1 n0 n1 : Nat} {c0 : ClassId} {ty : FieldType} {z w : Nat → Int} {sp dp n : Int} (q0 q1 t0 : Nat) (ha0 : ws[q0]? = some (a0, .inl (c0, n0, .inl (zf z)))) (ha1 : ws[q1]? = some (a1, .inl (c0, n1, .inl (zf w)))) (ht0 : tys[t0]? = some (c0, ty)) (hprim : refKind ty = false) (hlk : Cond.methodLink own index arraycopyName ∈ Ts) (hnat : Cond.native arraycopyName ∈ Ts) (hst : Cond.static arraycopyName ∈ Ts) (hini : Cond.initialized "java/lang/System" ∈ Ts)
    (h1 : 0 ≤ sp ∧ 0 ≤ dp ∧ 0 ≤ n ∧ sp + n ≤ n0 ∧ dp + n ≤ n1 ∧ n0 < 2147483648 ∧ n1 < 2147483648) (hfit : ∀ i : Nat, i < n.toNat → fits ty (.int (iZ (z (sp.toNat + i)))) = true) (hfr : 1 ≤ R.frames) (hlo : (st.map fun v => v.category).sum + (nativeFrameWords "java/lang/System" "arraycopy" 5 + 11) ≤ R.locals) (hdg : decode cc pc = .ok (.invokestatic index, 3))
    (hw : ws.set q1 (a1, .inl (c0, n1, .inl (zf (va_cpy z w sp.toNat dp.toNat n.toNat)))) = ws')
    (k : Go C R D cl nL kc ns ws' (pc + 3) lv st) : Go C R D cl nL kc ns ws pc lv (.int (iZ n) :: .int (iZ dp) :: .ref a1 :: .int (iZ sp) :: .ref a0 :: st) := by
  obtain ⟨p, l, e, s, m, args, below, meth, c, Q, A, H0⟩ := C
  obtain ⟨⟨hx, hb, hml, hown, hts⟩, hK, hA, hlk0⟩ := F
  intro H locs ls hP hD hS hl
  have e1 : (iZ sp).toNatClampNeg = sp.toNat := iZ_cl ⟨by omega, by omega⟩
  have e2 : (iZ dp).toNatClampNeg = dp.toNat := iZ_cl ⟨by omega, by omega⟩
  have e3 : (iZ n).toNatClampNeg = n.toNat := iZ_cl ⟨by omega, by omega⟩
  have ng : ∀ x : Int, 0 ≤ x → x ≤ 2147483647 → ¬ iZ x < 0 := fun x g1 g2 q => by
    have := (iZ_lt (a := x) (b := 0) ⟨⟨by omega, by omega⟩, by decide⟩).mp q
    omega
  refine va_copyi hx hb (by rw [hml]; exact hl.1.symm) hown (hts _ hlk) (hts _ hnat) (hts _ hst) (hts _ hini) hK hP hD hS q0 q1 t0 t0 ha0 ha1 ht0 ht0 hprim (ng sp (by omega) (by omega)) (ng dp (by omega) (by omega)) (ng n (by omega) (by omega)) (by rw [e1, e3]; omega) (by rw [e2, e3]; omega) (fun i hi => by rw [e1]; rw [e3] at hi; exact hfit i hi) hfr hlo hdg (fun H locs hP hD hS => ?_)
  rw [e1, e2, e3, zf_cpy, hw] at hP hD
  exact k H locs ls hP hD hS hl
end ZMATH
end
section
def RX0 : String := "BuildDisk$Disk"
def TX0 : u_T := fun k => match k with
  | 0 => ("BuildDisk$Disk", "sectors", "I", true)
  | 1 => ("BuildDisk$Disk", "bytes", "[B", true)
  | 2 => ("BuildDisk$Disk", "queue", "[B", true)
  | 3 => ("BuildDisk$Disk", "targets", "[I", true)
  | _ => ("BuildDisk$Disk", "waitCount", "I", false)
def tyX0 : Nat → FieldType := fun k => match k with
  | 0 => .int
  | 1 => .array .byte
  | 2 => .array .byte
  | 3 => .array .int
  | _ => .int
theorem nmX0 : ∀ a, a < 5 → ∀ b, b < 5 → a ≠ b → (TX0 a).2.1 ≠ (TX0 b).2.1 := by decide +kernel
theorem tyX0_ok : ∀ k, k < 5 → parseFieldDescriptor (TX0 k).2.2.1 = some (tyX0 k) := by decide +kernel
abbrev cX0_init : ByteArray := prog_2_method_1_code
def yX0_init : MethodName := ⟨RX0, "<init>", "(I)V"⟩
abbrev cX0_waiting : ByteArray := prog_2_method_2_code
def yX0_waiting : MethodName := ⟨RX0, "waiting", "()I"⟩
abbrev cX0_waitWithZeros : ByteArray := prog_2_method_3_code
def yX0_waitWithZeros : MethodName := ⟨RX0, "waitWithZeros", "(I)I"⟩
abbrev cX0_waitAsItWillBe : ByteArray := prog_2_method_4_code
def yX0_waitAsItWillBe : MethodName := ⟨RX0, "waitAsItWillBe", "(I)I"⟩
abbrev cX0_bring : ByteArray := prog_2_method_5_code
def yX0_bring : MethodName := ⟨RX0, "bring", "(II)I"⟩
abbrev cX0_addTarget : ByteArray := prog_2_method_6_code
def yX0_addTarget : MethodName := ⟨RX0, "addTarget", "(I)I"⟩
abbrev cX0_latestWrite : ByteArray := prog_2_method_7_code
def yX0_latestWrite : MethodName := ⟨RX0, "latestWrite", "(I)I"⟩
def RX1 : String := "BuildDisk$Head"
def TX1 : u_T := fun k => match k with
  | _ => ("", "", "", false)
def tyX1 : Nat → FieldType := fun k => match k with
  | _ => .int
theorem nmX1 : ∀ a, a < 0 → ∀ b, b < 0 → a ≠ b → (TX1 a).2.1 ≠ (TX1 b).2.1 := by decide +kernel
theorem tyX1_ok : ∀ k, k < 0 → parseFieldDescriptor (TX1 k).2.2.1 = some (tyX1 k) := by decide +kernel
abbrev cX1_counting : ByteArray := prog_3_method_2_code
def yX1_counting : MethodName := ⟨RX1, "counting", "([B)I"⟩
abbrev cX1_isGood : ByteArray := prog_3_method_3_code
def yX1_isGood : MethodName := ⟨RX1, "isGood", "([BI)Z"⟩
abbrev cX1_editionAt : ByteArray := prog_3_method_4_code
def yX1_editionAt : MethodName := ⟨RX1, "editionAt", "([BI)J"⟩
abbrev cX1_sequenceAt : ByteArray := prog_3_method_5_code
def yX1_sequenceAt : MethodName := ⟨RX1, "sequenceAt", "([BI)I"⟩
abbrev cX1_areaAt : ByteArray := prog_3_method_6_code
def yX1_areaAt : MethodName := ⟨RX1, "areaAt", "([BI)I"⟩
abbrev cX1_write : ByteArray := prog_3_method_7_code
def yX1_write : MethodName := ⟨RX1, "write", "([BIIII)V"⟩
def RX2 : String := "BuildDisk$Numbers"
def TX2 : u_T := fun k => match k with
  | _ => ("", "", "", false)
def tyX2 : Nat → FieldType := fun k => match k with
  | _ => .int
theorem nmX2 : ∀ a, a < 0 → ∀ b, b < 0 → a ≠ b → (TX2 a).2.1 ≠ (TX2 b).2.1 := by decide +kernel
theorem tyX2_ok : ∀ k, k < 0 → parseFieldDescriptor (TX2 k).2.2.1 = some (tyX2 k) := by decide +kernel
abbrev cX2_read : ByteArray := prog_4_method_2_code
def yX2_read : MethodName := ⟨RX2, "read", "([BII)J"⟩
abbrev cX2_write : ByteArray := prog_4_method_3_code
def yX2_write : MethodName := ⟨RX2, "write", "([BIIJ)V"⟩
abbrev cX2_sum : ByteArray := prog_4_method_4_code
def yX2_sum : MethodName := ⟨RX2, "sum", "([BIII)I"⟩
abbrev cX2_hasSum : ByteArray := prog_4_method_5_code
def yX2_hasSum : MethodName := ⟨RX2, "hasSum", "([BIII)Z"⟩
abbrev cX2_writeSum : ByteArray := prog_4_method_6_code
def yX2_writeSum : MethodName := ⟨RX2, "writeSum", "([BIII)V"⟩
def RX3 : String := "BuildDisk$Table"
def TX3 : u_T := fun k => match k with
  | 0 => ("BuildDisk$Table", "kinds", "[I", true)
  | 1 => ("BuildDisk$Table", "names", "[I", true)
  | 2 => ("BuildDisk$Table", "askCounts", "[I", true)
  | 3 => ("BuildDisk$Table", "askKeys", "[I", true)
  | 4 => ("BuildDisk$Table", "digests", "[J", true)
  | 5 => ("BuildDisk$Table", "latestPlaces", "[I", true)
  | 6 => ("BuildDisk$Table", "lockPlace", "I", false)
  | 7 => ("BuildDisk$Table", "rowsEnd", "I", false)
  | 8 => ("BuildDisk$Table", "wrongPlaces", "I", false)
  | _ => ("BuildDisk$Table", "lastWrong", "I", false)
def tyX3 : Nat → FieldType := fun k => match k with
  | 0 => .array .int
  | 1 => .array .int
  | 2 => .array .int
  | 3 => .array .int
  | 4 => .array .long
  | 5 => .array .int
  | 6 => .int
  | 7 => .int
  | 8 => .int
  | _ => .int
theorem nmX3 : ∀ a, a < 10 → ∀ b, b < 10 → a ≠ b → (TX3 a).2.1 ≠ (TX3 b).2.1 := by decide +kernel
theorem tyX3_ok : ∀ k, k < 10 → parseFieldDescriptor (TX3 k).2.2.1 = some (tyX3 k) := by decide +kernel
abbrev cX3_init : ByteArray := prog_5_method_1_code
def yX3_init : MethodName := ⟨RX3, "<init>", "(I)V"⟩
abbrev cX3_isKey : ByteArray := prog_5_method_2_code
def yX3_isKey : MethodName := ⟨RX3, "isKey", "(I)Z"⟩
abbrev cX3_isUser : ByteArray := prog_5_method_3_code
def yX3_isUser : MethodName := ⟨RX3, "isUser", "(I)Z"⟩
abbrev cX3_places : ByteArray := prog_5_method_4_code
def yX3_places : MethodName := ⟨RX3, "places", "()I"⟩
abbrev cX3_end : ByteArray := prog_5_method_5_code
def yX3_end : MethodName := ⟨RX3, "end", "()I"⟩
abbrev cX3_isFull : ByteArray := prog_5_method_6_code
def yX3_isFull : MethodName := ⟨RX3, "isFull", "()Z"⟩
abbrev cX3_wrongCount : ByteArray := prog_5_method_7_code
def yX3_wrongCount : MethodName := ⟨RX3, "wrongCount", "()I"⟩
abbrev cX3_kindAt : ByteArray := prog_5_method_8_code
def yX3_kindAt : MethodName := ⟨RX3, "kindAt", "(I)I"⟩
abbrev cX3_askCount : ByteArray := prog_5_method_9_code
def yX3_askCount : MethodName := ⟨RX3, "askCount", "(I)I"⟩
abbrev cX3_askAt : ByteArray := prog_5_method_10_code
def yX3_askAt : MethodName := ⟨RX3, "askAt", "(II)I"⟩
abbrev cX3_digestAt : ByteArray := prog_5_method_11_code
def yX3_digestAt : MethodName := ⟨RX3, "digestAt", "(I)J"⟩
abbrev cX3_latest : ByteArray := prog_5_method_12_code
def yX3_latest : MethodName := ⟨RX3, "latest", "(I)I"⟩
abbrev cX3_isWrongBehind : ByteArray := prog_5_method_13_code
def yX3_isWrongBehind : MethodName := ⟨RX3, "isWrongBehind", "(I)Z"⟩
abbrev cX3_lockHolder : ByteArray := prog_5_method_14_code
def yX3_lockHolder : MethodName := ⟨RX3, "lockHolder", "()I"⟩
abbrev cX3_isToCopy : ByteArray := prog_5_method_15_code
def yX3_isToCopy : MethodName := ⟨RX3, "isToCopy", "(I)Z"⟩
abbrev cX3_clear : ByteArray := prog_5_method_16_code
def yX3_clear : MethodName := ⟨RX3, "clear", "()V"⟩
abbrev cX3_read : ByteArray := prog_5_method_17_code
def yX3_read : MethodName := ⟨RX3, "read", "([BI)V"⟩
abbrev cX3_append : ByteArray := prog_5_method_18_code
def yX3_append : MethodName := ⟨RX3, "append", "(IIJ)I"⟩
abbrev cX3_addAsk : ByteArray := prog_5_method_19_code
def yX3_addAsk : MethodName := ⟨RX3, "addAsk", "(II)V"⟩
abbrev cX3_keepOnly : ByteArray := prog_5_method_20_code
def yX3_keepOnly : MethodName := ⟨RX3, "keepOnly", "([II)V"⟩
abbrev cX3_write : ByteArray := prog_5_method_21_code
def yX3_write : MethodName := ⟨RX3, "write", "(I[BII)V"⟩
abbrev cX3_isRow : ByteArray := prog_5_method_22_code
def yX3_isRow : MethodName := ⟨RX3, "isRow", "([BII)Z"⟩
abbrev cX3_areKeys : ByteArray := prog_5_method_23_code
def yX3_areKeys : MethodName := ⟨RX3, "areKeys", "([BII)Z"⟩
abbrev cX3_readRow : ByteArray := prog_5_method_24_code
def yX3_readRow : MethodName := ⟨RX3, "readRow", "([BII)V"⟩
abbrev cX3_move : ByteArray := prog_5_method_25_code
def yX3_move : MethodName := ⟨RX3, "move", "(II)V"⟩
abbrev cX3_index : ByteArray := prog_5_method_26_code
def yX3_index : MethodName := ⟨RX3, "index", "()V"⟩
abbrev cX3_indexPlace : ByteArray := prog_5_method_27_code
def yX3_indexPlace : MethodName := ⟨RX3, "indexPlace", "(I)V"⟩
def RX4 : String := "BuildDisk$Unkept"
def TX4 : u_T := fun k => match k with
  | 0 => ("BuildDisk$Unkept", "marks", "[Z", true)
  | _ => ("BuildDisk$Unkept", "digests", "[J", true)
def tyX4 : Nat → FieldType := fun k => match k with
  | 0 => .array .boolean
  | _ => .array .long
theorem nmX4 : ∀ a, a < 2 → ∀ b, b < 2 → a ≠ b → (TX4 a).2.1 ≠ (TX4 b).2.1 := by decide +kernel
theorem tyX4_ok : ∀ k, k < 2 → parseFieldDescriptor (TX4 k).2.2.1 = some (tyX4 k) := by decide +kernel
abbrev cX4_init : ByteArray := prog_6_method_1_code
def yX4_init : MethodName := ⟨RX4, "<init>", "()V"⟩
abbrev cX4_has : ByteArray := prog_6_method_2_code
def yX4_has : MethodName := ⟨RX4, "has", "(I)Z"⟩
abbrev cX4_digestOf : ByteArray := prog_6_method_3_code
def yX4_digestOf : MethodName := ⟨RX4, "digestOf", "(I)J"⟩
abbrev cX4_count : ByteArray := prog_6_method_4_code
def yX4_count : MethodName := ⟨RX4, "count", "()I"⟩
abbrev cX4_put : ByteArray := prog_6_method_5_code
def yX4_put : MethodName := ⟨RX4, "put", "(IJ)V"⟩
abbrev cX4_forget : ByteArray := prog_6_method_6_code
def yX4_forget : MethodName := ⟨RX4, "forget", "(I)V"⟩
abbrev cX4_forgetAll : ByteArray := prog_6_method_7_code
def yX4_forgetAll : MethodName := ⟨RX4, "forgetAll", "()V"⟩
def RX5 : String := "BuildDisk"
def TX5 : u_T := fun k => match k with
  | 0 => ("BuildDisk", "disk", "LBuildDisk$Disk;", true)
  | 1 => ("BuildDisk", "table", "LBuildDisk$Table;", true)
  | 2 => ("BuildDisk", "unkept", "LBuildDisk$Unkept;", true)
  | 3 => ("BuildDisk", "areaSectors", "I", true)
  | 4 => ("BuildDisk", "running", "Z", false)
  | 5 => ("BuildDisk", "area", "I", false)
  | 6 => ("BuildDisk", "sequence", "I", false)
  | 7 => ("BuildDisk", "goingEdition", "I", false)
  | 8 => ("BuildDisk", "nextEdition", "I", false)
  | 9 => ("BuildDisk", "wrongAtStart", "I", false)
  | 10 => ("BuildDisk", "fixedEnd", "I", false)
  | 11 => ("BuildDisk", "taken", "I", false)
  | 12 => ("BuildDisk", "copied", "I", false)
  | _ => ("BuildDisk", "copiedFrom", "[I", true)
def tyX5 : Nat → FieldType := fun k => match k with
  | 0 => .object "BuildDisk$Disk"
  | 1 => .object "BuildDisk$Table"
  | 2 => .object "BuildDisk$Unkept"
  | 3 => .int
  | 4 => .boolean
  | 5 => .int
  | 6 => .int
  | 7 => .int
  | 8 => .int
  | 9 => .int
  | 10 => .int
  | 11 => .int
  | 12 => .int
  | _ => .array .int
theorem nmX5 : ∀ a, a < 14 → ∀ b, b < 14 → a ≠ b → (TX5 a).2.1 ≠ (TX5 b).2.1 := by decide +kernel
theorem tyX5_ok : ∀ k, k < 14 → parseFieldDescriptor (TX5 k).2.2.1 = some (tyX5 k) := by decide +kernel
abbrev cX5_init : ByteArray := prog_1_method_1_code
def yX5_init : MethodName := ⟨RX5, "<init>", "(I)V"⟩
abbrev cX5_start : ByteArray := prog_1_method_2_code
def yX5_start : MethodName := ⟨RX5, "start", "()I"⟩
abbrev cX5_row : ByteArray := prog_1_method_3_code
def yX5_row : MethodName := ⟨RX5, "row", "(IJ)I"⟩
abbrev cX5_asks : ByteArray := prog_1_method_4_code
def yX5_asks : MethodName := ⟨RX5, "asks", "(II)I"⟩
abbrev cX5_sync : ByteArray := prog_1_method_5_code
def yX5_sync : MethodName := ⟨RX5, "sync", "()I"⟩
abbrev cX5_compact : ByteArray := prog_1_method_6_code
def yX5_compact : MethodName := ⟨RX5, "compact", "(I)I"⟩
abbrev cX5_cut : ByteArray := prog_1_method_7_code
def yX5_cut : MethodName := ⟨RX5, "cut", "(II)V"⟩
abbrev cX5_digest : ByteArray := prog_1_method_8_code
def yX5_digest : MethodName := ⟨RX5, "digest", "(I)J"⟩
abbrev cX5_asked : ByteArray := prog_1_method_9_code
def yX5_asked : MethodName := ⟨RX5, "asked", "(II)I"⟩
abbrev cX5_sure : ByteArray := prog_1_method_10_code
def yX5_sure : MethodName := ⟨RX5, "sure", "(I)Z"⟩
abbrev cX5_sector : ByteArray := prog_1_method_11_code
def yX5_sector : MethodName := ⟨RX5, "sector", "(II)B"⟩
abbrev cX5_poke : ByteArray := prog_1_method_12_code
def yX5_poke : MethodName := ⟨RX5, "poke", "(II)I"⟩
abbrev cX5_wrong : ByteArray := prog_1_method_13_code
def yX5_wrong : MethodName := ⟨RX5, "wrong", "()I"⟩
abbrev cX5_lock : ByteArray := prog_1_method_14_code
def yX5_lock : MethodName := ⟨RX5, "lock", "(I)I"⟩
abbrev cX5_dead : ByteArray := prog_1_method_15_code
def yX5_dead : MethodName := ⟨RX5, "dead", "(I)I"⟩
abbrev cX5_edition : ByteArray := prog_1_method_16_code
def yX5_edition : MethodName := ⟨RX5, "edition", "(I)I"⟩
abbrev cX5_about : ByteArray := prog_1_method_17_code
def yX5_about : MethodName := ⟨RX5, "about", "(I)I"⟩
abbrev cX5_aboutRunning : ByteArray := prog_1_method_18_code
def yX5_aboutRunning : MethodName := ⟨RX5, "aboutRunning", "(I)I"⟩
abbrev cX5_fitsEdition : ByteArray := prog_1_method_19_code
def yX5_fitsEdition : MethodName := ⟨RX5, "fitsEdition", "(J)Z"⟩
abbrev cX5_beginEmpty : ByteArray := prog_1_method_20_code
def yX5_beginEmpty : MethodName := ⟨RX5, "beginEmpty", "()V"⟩
abbrev cX5_beginBy : ByteArray := prog_1_method_21_code
def yX5_beginBy : MethodName := ⟨RX5, "beginBy", "(I)V"⟩
abbrev cX5_firstSector : ByteArray := prog_1_method_22_code
def yX5_firstSector : MethodName := ⟨RX5, "firstSector", "(I)I"⟩
abbrev cX5_clearArea : ByteArray := prog_1_method_23_code
def yX5_clearArea : MethodName := ⟨RX5, "clearArea", "(I)V"⟩
abbrev cX5_changeHeads : ByteArray := prog_1_method_24_code
def yX5_changeHeads : MethodName := ⟨RX5, "changeHeads", "()V"⟩
abbrev cX5_keep : ByteArray := prog_1_method_25_code
def yX5_keep : MethodName := ⟨RX5, "keep", "(IIJ)I"⟩
abbrev cX5_writeRow : ByteArray := prog_1_method_26_code
def yX5_writeRow : MethodName := ⟨RX5, "writeRow", "(III)V"⟩
abbrev cX5_allAskedAhead : ByteArray := prog_1_method_27_code
def yX5_allAskedAhead : MethodName := ⟨RX5, "allAskedAhead", "(I)Z"⟩
abbrev cX5_doStep : ByteArray := prog_1_method_28_code
def yX5_doStep : MethodName := ⟨RX5, "doStep", "()Z"⟩
abbrev cX5_takePlace : ByteArray := prog_1_method_29_code
def yX5_takePlace : MethodName := ⟨RX5, "takePlace", "(I)V"⟩
abbrev cX5_endCompaction : ByteArray := prog_1_method_30_code
def yX5_endCompaction : MethodName := ⟨RX5, "endCompaction", "()V"⟩
def RX6 : String := "BuildDiskModel"
def TX6 : u_T := fun k => match k with
  | 0 => ("BuildDiskModel", "thrown", "I", false)
  | 1 => ("BuildDiskModel", "sectors", "I", true)
  | 2 => ("BuildDiskModel", "each", "I", true)
  | 3 => ("BuildDiskModel", "disk", "[I", true)
  | 4 => ("BuildDiskModel", "waiting", "[I", true)
  | 5 => ("BuildDiskModel", "where", "[I", true)
  | 6 => ("BuildDiskModel", "waits", "I", false)
  | 7 => ("BuildDiskModel", "now", "[I", true)
  | 8 => ("BuildDiskModel", "runs", "Z", false)
  | 9 => ("BuildDiskModel", "edition", "I", false)
  | 10 => ("BuildDiskModel", "wanted", "I", false)
  | 11 => ("BuildDiskModel", "sequence", "I", false)
  | 12 => ("BuildDiskModel", "area", "I", false)
  | 13 => ("BuildDiskModel", "end", "I", false)
  | 14 => ("BuildDiskModel", "settled", "I", false)
  | 15 => ("BuildDiskModel", "wrongs", "I", false)
  | 16 => ("BuildDiskModel", "taken", "I", false)
  | 17 => ("BuildDiskModel", "copied", "I", false)
  | 18 => ("BuildDiskModel", "compacts", "Z", false)
  | 19 => ("BuildDiskModel", "kind", "[I", true)
  | 20 => ("BuildDiskModel", "key", "[I", true)
  | 21 => ("BuildDiskModel", "many", "[I", true)
  | 22 => ("BuildDiskModel", "asked", "[I", true)
  | 23 => ("BuildDiskModel", "digest", "[J", true)
  | 24 => ("BuildDiskModel", "unkept", "[Z", true)
  | _ => ("BuildDiskModel", "unkeptDigest", "[J", true)
def tyX6 : Nat → FieldType := fun k => match k with
  | 0 => .int
  | 1 => .int
  | 2 => .int
  | 3 => .array .int
  | 4 => .array .int
  | 5 => .array .int
  | 6 => .int
  | 7 => .array .int
  | 8 => .boolean
  | 9 => .int
  | 10 => .int
  | 11 => .int
  | 12 => .int
  | 13 => .int
  | 14 => .int
  | 15 => .int
  | 16 => .int
  | 17 => .int
  | 18 => .boolean
  | 19 => .array .int
  | 20 => .array .int
  | 21 => .array .int
  | 22 => .array .int
  | 23 => .array .long
  | 24 => .array .boolean
  | _ => .array .long
theorem nmX6 : ∀ a, a < 26 → ∀ b, b < 26 → a ≠ b → (TX6 a).2.1 ≠ (TX6 b).2.1 := by decide +kernel
theorem tyX6_ok : ∀ k, k < 26 → parseFieldDescriptor (TX6 k).2.2.1 = some (tyX6 k) := by decide +kernel
abbrev cX6_init : ByteArray := prog_8_method_1_code
def yX6_init : MethodName := ⟨RX6, "<init>", "(I)V"⟩
abbrev cX6_thrown : ByteArray := prog_8_method_2_code
def yX6_thrown : MethodName := ⟨RX6, "thrown", "()I"⟩
abbrev cX6_isKey : ByteArray := prog_8_method_3_code
def yX6_isKey : MethodName := ⟨RX6, "isKey", "(I)Z"⟩
abbrev cX6_isUser : ByteArray := prog_8_method_4_code
def yX6_isUser : MethodName := ⟨RX6, "isUser", "(I)Z"⟩
abbrev cX6_bring : ByteArray := prog_8_method_5_code
def yX6_bring : MethodName := ⟨RX6, "bring", "(II)V"⟩
abbrev cX6_bringAll : ByteArray := prog_8_method_6_code
def yX6_bringAll : MethodName := ⟨RX6, "bringAll", "()V"⟩
abbrev cX6_load : ByteArray := prog_8_method_7_code
def yX6_load : MethodName := ⟨RX6, "load", "(I)V"⟩
abbrev cX6_clear : ByteArray := prog_8_method_8_code
def yX6_clear : MethodName := ⟨RX6, "clear", "()V"⟩
abbrev cX6_send : ByteArray := prog_8_method_9_code
def yX6_send : MethodName := ⟨RX6, "send", "(I)V"⟩
abbrev cX6_put : ByteArray := prog_8_method_10_code
def yX6_put : MethodName := ⟨RX6, "put", "(IJI)V"⟩
abbrev cX6_turned : ByteArray := prog_8_method_11_code
def yX6_turned : MethodName := ⟨RX6, "turned", "(II)I"⟩
abbrev cX6_sum : ByteArray := prog_8_method_12_code
def yX6_sum : MethodName := ⟨RX6, "sum", "(III)I"⟩
abbrev cX6_number : ByteArray := prog_8_method_13_code
def yX6_number : MethodName := ⟨RX6, "number", "(II)I"⟩
abbrev cX6_sectorOf : ByteArray := prog_8_method_14_code
def yX6_sectorOf : MethodName := ⟨RX6, "sectorOf", "(II)I"⟩
abbrev cX6_write : ByteArray := prog_8_method_15_code
def yX6_write : MethodName := ⟨RX6, "write", "(III)V"⟩
abbrev cX6_isRow : ByteArray := prog_8_method_16_code
def yX6_isRow : MethodName := ⟨RX6, "isRow", "(I)Z"⟩
abbrev cX6_read : ByteArray := prog_8_method_17_code
def yX6_read : MethodName := ⟨RX6, "read", "(I)V"⟩
abbrev cX6_copyRow : ByteArray := prog_8_method_18_code
def yX6_copyRow : MethodName := ⟨RX6, "copyRow", "(II)V"⟩
abbrev cX6_latest : ByteArray := prog_8_method_19_code
def yX6_latest : MethodName := ⟨RX6, "latest", "(I)I"⟩
abbrev cX6_lockRow : ByteArray := prog_8_method_20_code
def yX6_lockRow : MethodName := ⟨RX6, "lockRow", "()I"⟩
abbrev cX6_isWrongBehind : ByteArray := prog_8_method_21_code
def yX6_isWrongBehind : MethodName := ⟨RX6, "isWrongBehind", "(I)Z"⟩
abbrev cX6_keep : ByteArray := prog_8_method_22_code
def yX6_keep : MethodName := ⟨RX6, "keep", "(IIJ)I"⟩
abbrev cX6_head : ByteArray := prog_8_method_23_code
def yX6_head : MethodName := ⟨RX6, "head", "()V"⟩
abbrev cX6_changeHeads : ByteArray := prog_8_method_24_code
def yX6_changeHeads : MethodName := ⟨RX6, "changeHeads", "()V"⟩
abbrev cX6_isHead : ByteArray := prog_8_method_25_code
def yX6_isHead : MethodName := ⟨RX6, "isHead", "(I)Z"⟩
abbrev cX6_zeros : ByteArray := prog_8_method_26_code
def yX6_zeros : MethodName := ⟨RX6, "zeros", "(I)V"⟩
abbrev cX6_start : ByteArray := prog_8_method_27_code
def yX6_start : MethodName := ⟨RX6, "start", "()I"⟩
abbrev cX6_row : ByteArray := prog_8_method_28_code
def yX6_row : MethodName := ⟨RX6, "row", "(IJ)I"⟩
abbrev cX6_asks : ByteArray := prog_8_method_29_code
def yX6_asks : MethodName := ⟨RX6, "asks", "(II)I"⟩
abbrev cX6_sync : ByteArray := prog_8_method_30_code
def yX6_sync : MethodName := ⟨RX6, "sync", "()I"⟩
abbrev cX6_step : ByteArray := prog_8_method_31_code
def yX6_step : MethodName := ⟨RX6, "step", "()Z"⟩
abbrev cX6_compact : ByteArray := prog_8_method_32_code
def yX6_compact : MethodName := ⟨RX6, "compact", "(I)I"⟩
abbrev cX6_cut : ByteArray := prog_8_method_33_code
def yX6_cut : MethodName := ⟨RX6, "cut", "(II)V"⟩
abbrev cX6_digest : ByteArray := prog_8_method_34_code
def yX6_digest : MethodName := ⟨RX6, "digest", "(I)J"⟩
abbrev cX6_asked : ByteArray := prog_8_method_35_code
def yX6_asked : MethodName := ⟨RX6, "asked", "(II)I"⟩
abbrev cX6_sure : ByteArray := prog_8_method_36_code
def yX6_sure : MethodName := ⟨RX6, "sure", "(I)Z"⟩
abbrev cX6_sector : ByteArray := prog_8_method_37_code
def yX6_sector : MethodName := ⟨RX6, "sector", "(II)B"⟩
abbrev cX6_poke : ByteArray := prog_8_method_38_code
def yX6_poke : MethodName := ⟨RX6, "poke", "(II)I"⟩
abbrev cX6_wrong : ByteArray := prog_8_method_39_code
def yX6_wrong : MethodName := ⟨RX6, "wrong", "()I"⟩
abbrev cX6_holder : ByteArray := prog_8_method_40_code
def yX6_holder : MethodName := ⟨RX6, "holder", "()I"⟩
abbrev cX6_lock : ByteArray := prog_8_method_41_code
def yX6_lock : MethodName := ⟨RX6, "lock", "(I)I"⟩
abbrev cX6_dead : ByteArray := prog_8_method_42_code
def yX6_dead : MethodName := ⟨RX6, "dead", "(I)I"⟩
abbrev cX6_edition : ByteArray := prog_8_method_43_code
def yX6_edition : MethodName := ⟨RX6, "edition", "(I)I"⟩
abbrev cX6_about : ByteArray := prog_8_method_44_code
def yX6_about : MethodName := ⟨RX6, "about", "(I)I"⟩
def RJ9 : String := "java/lang/Math"
def TJ9 : u_T := fun k => match k with
  | _ => ("", "", "", false)
def tyJ9 : Nat → FieldType := fun k => match k with
  | _ => .int
theorem nmJ9 : ∀ a, a < 0 → ∀ b, b < 0 → a ≠ b → (TJ9 a).2.1 ≠ (TJ9 b).2.1 := by decide +kernel
theorem tyJ9_ok : ∀ k, k < 0 → parseFieldDescriptor (TJ9 k).2.2.1 = some (tyJ9 k) := by decide +kernel
abbrev cJ9_floorMod_7cf53 : ByteArray := prog_12_method_50_code
def yJ9_floorMod_7cf53 : MethodName := ⟨RJ9, "floorMod", "(II)I"⟩
abbrev cJ9_max_7cf53 : ByteArray := prog_12_method_65_code
def yJ9_max_7cf53 : MethodName := ⟨RJ9, "max", "(II)I"⟩
abbrev cJ9_min_7cf53 : ByteArray := prog_12_method_69_code
def yJ9_min_7cf53 : MethodName := ⟨RJ9, "min", "(II)I"⟩
def RL : String := "BuildDiskLaw"
abbrev cL_cell : ByteArray := method_2_code
def yL_cell : MethodName := ⟨RL, "cell", "([II)I"⟩
abbrev cL_sector : ByteArray := method_3_code
def yL_sector : MethodName := ⟨RL, "sector", "(LBuildDisk;II[J)I"⟩
abbrev cL_law : ByteArray := code
def yL_law : MethodName := ⟨RL, "law", "([I)Z"⟩
abbrev cls5 : List vw_C := [(RX0, TX0, 5), (RX3, TX3, 10), (RX4, TX4, 2), (RX5, TX5, 14), (RX6, TX6, 26)]
abbrev oX0 (a : Nat) (f0 : Int) (f1 : Nat) (f2 : Nat) (f3 : Nat) (f4 : Int) : Nat × va_E := (a, .inr (0, [.int (iZ f0), .ref f1, .ref f2, .ref f3, .int (iZ f4)]))
abbrev oX3 (a : Nat) (f0 : Nat) (f1 : Nat) (f2 : Nat) (f3 : Nat) (f4 : Nat) (f5 : Nat) (f6 : Int) (f7 : Int) (f8 : Int) (f9 : Int) : Nat × va_E := (a, .inr (1, [.ref f0, .ref f1, .ref f2, .ref f3, .ref f4, .ref f5, .int (iZ f6), .int (iZ f7), .int (iZ f8), .int (iZ f9)]))
abbrev oX4 (a : Nat) (f0 : Nat) (f1 : Nat) : Nat × va_E := (a, .inr (2, [.ref f0, .ref f1]))
abbrev oX5 (a : Nat) (f0 : Nat) (f1 : Nat) (f2 : Nat) (f3 : Int) (f4 : Int) (f5 : Int) (f6 : Int) (f7 : Int) (f8 : Int) (f9 : Int) (f10 : Int) (f11 : Int) (f12 : Int) (f13 : Nat) : Nat × va_E := (a, .inr (3, [.ref f0, .ref f1, .ref f2, .int (iZ f3), .int (iZ f4), .int (iZ f5), .int (iZ f6), .int (iZ f7), .int (iZ f8), .int (iZ f9), .int (iZ f10), .int (iZ f11), .int (iZ f12), .ref f13]))
abbrev oX6 (a : Nat) (f0 : Int) (f1 : Int) (f2 : Int) (f3 : Nat) (f4 : Nat) (f5 : Nat) (f6 : Int) (f7 : Nat) (f8 : Int) (f9 : Int) (f10 : Int) (f11 : Int) (f12 : Int) (f13 : Int) (f14 : Int) (f15 : Int) (f16 : Int) (f17 : Int) (f18 : Int) (f19 : Nat) (f20 : Nat) (f21 : Nat) (f22 : Nat) (f23 : Nat) (f24 : Nat) (f25 : Nat) : Nat × va_E := (a, .inr (4, [.int (iZ f0), .int (iZ f1), .int (iZ f2), .ref f3, .ref f4, .ref f5, .int (iZ f6), .ref f7, .int (iZ f8), .int (iZ f9), .int (iZ f10), .int (iZ f11), .int (iZ f12), .int (iZ f13), .int (iZ f14), .int (iZ f15), .int (iZ f16), .int (iZ f17), .int (iZ f18), .ref f19, .ref f20, .ref f21, .ref f22, .ref f23, .ref f24, .ref f25]))
end
section
theorem ts_0 : Cond.selects RX5 yX5_fitsEdition yX5_fitsEdition ∈ lw_T := lw_inS 0 rfl rfl
theorem ts_1 : Cond.selects RX5 yX5_beginEmpty yX5_beginEmpty ∈ lw_T := lw_inS 1 rfl rfl
theorem ts_10 : Cond.selects RX5 yX5_keep yX5_keep ∈ lw_T := lw_inS 10 rfl rfl
theorem ts_11 : Cond.selects RX5 yX5_writeRow yX5_writeRow ∈ lw_T := lw_inS 11 rfl rfl
theorem ts_12 : Cond.selects RX0 yX0_latestWrite yX0_latestWrite ∈ lw_T := lw_inS 12 rfl rfl
theorem ts_13 : Cond.selects RX5 yX5_doStep yX5_doStep ∈ lw_T := lw_inS 13 rfl rfl
theorem ts_14 : Cond.selects RX5 yX5_takePlace yX5_takePlace ∈ lw_T := lw_inS 14 rfl rfl
theorem ts_15 : Cond.selects RX5 yX5_endCompaction yX5_endCompaction ∈ lw_T := lw_inS 15 rfl rfl
theorem ts_16 : Cond.selects RX3 yX3_move yX3_move ∈ lw_T := lw_inS 16 rfl rfl
theorem ts_17 : Cond.selects RX5 yX5_allAskedAhead yX5_allAskedAhead ∈ lw_T := lw_inS 17 rfl rfl
theorem ts_18 : Cond.selects RX5 yX5_aboutRunning yX5_aboutRunning ∈ lw_T := lw_inS 18 rfl rfl
theorem ts_2 : Cond.selects RX3 yX3_index yX3_index ∈ lw_T := lw_inS 2 rfl rfl
theorem ts_3 : Cond.selects RX3 yX3_indexPlace yX3_indexPlace ∈ lw_T := lw_inS 3 rfl rfl
theorem ts_4 : Cond.selects RX5 yX5_clearArea yX5_clearArea ∈ lw_T := lw_inS 4 rfl rfl
theorem ts_5 : Cond.selects RX5 yX5_firstSector yX5_firstSector ∈ lw_T := lw_inS 5 rfl rfl
theorem ts_6 : Cond.selects RX0 yX0_addTarget yX0_addTarget ∈ lw_T := lw_inS 6 rfl rfl
theorem ts_7 : Cond.selects RX5 yX5_beginBy yX5_beginBy ∈ lw_T := lw_inS 7 rfl rfl
theorem ts_8 : Cond.selects RX3 yX3_readRow yX3_readRow ∈ lw_T := lw_inS 8 rfl rfl
theorem ts_9 : Cond.selects RX5 yX5_changeHeads yX5_changeHeads ∈ lw_T := lw_inS 9 rfl rfl
theorem t1_1 : (Jvm.Cond.initialized "BuildDisk") ∈ lw_T := lw_in1 1 rfl rfl
theorem t1_101 : (Jvm.Cond.fieldLink "BuildDisk$Unkept" (9 : Nat) "BuildDisk$Unkept" "marks" "[Z") ∈ lw_T := lw_in1 101 rfl rfl
theorem t1_102 : (Jvm.Cond.fieldLink "BuildDisk$Unkept" (15 : Nat) "BuildDisk$Unkept" "digests" "[J") ∈ lw_T := lw_in1 102 rfl rfl
theorem t1_103 : (Jvm.Cond.laysFinal "BuildDisk$Unkept" "BuildDisk$Unkept" "marks" "[Z") ∈ lw_T := lw_in1 103 rfl rfl
theorem t1_105 : (Jvm.Cond.laysFinal "BuildDisk$Unkept" "BuildDisk$Unkept" "digests" "[J") ∈ lw_T := lw_in1 105 rfl rfl
theorem t1_109 : (Jvm.Cond.fieldLink "BuildDisk" (27 : Nat) "BuildDisk" "disk" "LBuildDisk$Disk;") ∈ lw_T := lw_in1 109 rfl rfl
theorem t1_110 : (Jvm.Cond.fieldLink "BuildDisk" (34 : Nat) "BuildDisk" "table" "LBuildDisk$Table;") ∈ lw_T := lw_in1 110 rfl rfl
theorem t1_111 : (Jvm.Cond.fieldLink "BuildDisk" (41 : Nat) "BuildDisk" "unkept" "LBuildDisk$Unkept;") ∈ lw_T := lw_in1 111 rfl rfl
theorem t1_112 : (Jvm.Cond.fieldLink "BuildDisk" (18 : Nat) "BuildDisk" "areaSectors" "I") ∈ lw_T := lw_in1 112 rfl rfl
theorem t1_113 : (Jvm.Cond.fieldLink "BuildDisk" (55 : Nat) "BuildDisk" "running" "Z") ∈ lw_T := lw_in1 113 rfl rfl
theorem t1_114 : (Jvm.Cond.fieldLink "BuildDisk" (128 : Nat) "BuildDisk" "area" "I") ∈ lw_T := lw_in1 114 rfl rfl
theorem t1_115 : (Jvm.Cond.fieldLink "BuildDisk" (195 : Nat) "BuildDisk" "sequence" "I") ∈ lw_T := lw_in1 115 rfl rfl
theorem t1_116 : (Jvm.Cond.fieldLink "BuildDisk" (83 : Nat) "BuildDisk" "goingEdition" "I") ∈ lw_T := lw_in1 116 rfl rfl
theorem t1_117 : (Jvm.Cond.fieldLink "BuildDisk" (52 : Nat) "BuildDisk" "nextEdition" "I") ∈ lw_T := lw_in1 117 rfl rfl
theorem t1_118 : (Jvm.Cond.fieldLink "BuildDisk" (90 : Nat) "BuildDisk" "wrongAtStart" "I") ∈ lw_T := lw_in1 118 rfl rfl
theorem t1_119 : (Jvm.Cond.fieldLink "BuildDisk" (96 : Nat) "BuildDisk" "fixedEnd" "I") ∈ lw_T := lw_in1 119 rfl rfl
theorem t1_120 : (Jvm.Cond.fieldLink "BuildDisk" (49 : Nat) "BuildDisk" "taken" "I") ∈ lw_T := lw_in1 120 rfl rfl
theorem t1_121 : (Jvm.Cond.fieldLink "BuildDisk" (243 : Nat) "BuildDisk" "copied" "I") ∈ lw_T := lw_in1 121 rfl rfl
theorem t1_122 : (Jvm.Cond.fieldLink "BuildDisk" (45 : Nat) "BuildDisk" "copiedFrom" "[I") ∈ lw_T := lw_in1 122 rfl rfl
theorem t1_123 : (Jvm.Cond.laysFinal "BuildDisk" "BuildDisk" "disk" "LBuildDisk$Disk;") ∈ lw_T := lw_in1 123 rfl rfl
theorem t1_125 : (Jvm.Cond.laysFinal "BuildDisk" "BuildDisk" "table" "LBuildDisk$Table;") ∈ lw_T := lw_in1 125 rfl rfl
theorem t1_127 : (Jvm.Cond.laysFinal "BuildDisk" "BuildDisk" "unkept" "LBuildDisk$Unkept;") ∈ lw_T := lw_in1 127 rfl rfl
theorem t1_129 : (Jvm.Cond.laysFinal "BuildDisk" "BuildDisk" "areaSectors" "I") ∈ lw_T := lw_in1 129 rfl rfl
theorem t1_131 : (Jvm.Cond.lays "BuildDisk" "BuildDisk" "running" "Z") ∈ lw_T := lw_in1 131 rfl rfl
theorem t1_133 : (Jvm.Cond.lays "BuildDisk" "BuildDisk" "area" "I") ∈ lw_T := lw_in1 133 rfl rfl
theorem t1_135 : (Jvm.Cond.lays "BuildDisk" "BuildDisk" "sequence" "I") ∈ lw_T := lw_in1 135 rfl rfl
theorem t1_137 : (Jvm.Cond.lays "BuildDisk" "BuildDisk" "goingEdition" "I") ∈ lw_T := lw_in1 137 rfl rfl
theorem t1_139 : (Jvm.Cond.lays "BuildDisk" "BuildDisk" "nextEdition" "I") ∈ lw_T := lw_in1 139 rfl rfl
theorem t1_141 : (Jvm.Cond.lays "BuildDisk" "BuildDisk" "wrongAtStart" "I") ∈ lw_T := lw_in1 141 rfl rfl
theorem t1_143 : (Jvm.Cond.lays "BuildDisk" "BuildDisk" "fixedEnd" "I") ∈ lw_T := lw_in1 143 rfl rfl
theorem t1_145 : (Jvm.Cond.lays "BuildDisk" "BuildDisk" "taken" "I") ∈ lw_T := lw_in1 145 rfl rfl
theorem t1_147 : (Jvm.Cond.lays "BuildDisk" "BuildDisk" "copied" "I") ∈ lw_T := lw_in1 147 rfl rfl
theorem t1_149 : (Jvm.Cond.laysFinal "BuildDisk" "BuildDisk" "copiedFrom" "[I") ∈ lw_T := lw_in1 149 rfl rfl
theorem t1_156 : (Jvm.Cond.methodLink "BuildDisk" (63 : Nat) ({ cls := "BuildDisk$Head", name := "counting", desc := "([B)I" } : Jvm.MethodName)) ∈ lw_T := lw_in1 156 rfl rfl
theorem t1_157 : (Jvm.Cond.static ({ cls := "BuildDisk$Head", name := "counting", desc := "([B)I" } : Jvm.MethodName)) ∈ lw_T := lw_in1 157 rfl rfl
theorem t1_158 : (Jvm.Cond.code ({ cls := "BuildDisk$Head", name := "counting", desc := "([B)I" } : Jvm.MethodName) prog_3_method_2_code (3 : Nat) (Option.some Jvm.ClassFile.FieldType.int)) ∈ lw_T := lw_in1 158 rfl rfl
theorem t1_159 : (Jvm.Cond.methodLink "BuildDisk$Head" (9 : Nat) ({ cls := "BuildDisk$Head", name := "isGood", desc := "([BI)Z" } : Jvm.MethodName)) ∈ lw_T := lw_in1 159 rfl rfl
theorem t1_160 : (Jvm.Cond.static ({ cls := "BuildDisk$Head", name := "isGood", desc := "([BI)Z" } : Jvm.MethodName)) ∈ lw_T := lw_in1 160 rfl rfl
theorem t1_161 : (Jvm.Cond.code ({ cls := "BuildDisk$Head", name := "isGood", desc := "([BI)Z" } : Jvm.MethodName) prog_3_method_3_code (5 : Nat) (Option.some Jvm.ClassFile.FieldType.boolean)) ∈ lw_T := lw_in1 161 rfl rfl
theorem t1_162 : (Jvm.Cond.methodLink "BuildDisk$Head" (19 : Nat) ({ cls := "BuildDisk$Numbers", name := "read", desc := "([BII)J" } : Jvm.MethodName)) ∈ lw_T := lw_in1 162 rfl rfl
theorem t1_163 : (Jvm.Cond.static ({ cls := "BuildDisk$Numbers", name := "read", desc := "([BII)J" } : Jvm.MethodName)) ∈ lw_T := lw_in1 163 rfl rfl
theorem t1_164 : (Jvm.Cond.code ({ cls := "BuildDisk$Numbers", name := "read", desc := "([BII)J" } : Jvm.MethodName) prog_4_method_2_code (6 : Nat) (Option.some Jvm.ClassFile.FieldType.long)) ∈ lw_T := lw_in1 164 rfl rfl
theorem t1_165 : (Jvm.Cond.constantLong "BuildDisk$Head" (25 : Nat) (2000000000 : Int64)) ∈ lw_T := lw_in1 165 rfl rfl
theorem t1_166 : (Jvm.Cond.constantLong "BuildDisk$Head" (27 : Nat) (2 : Int64)) ∈ lw_T := lw_in1 166 rfl rfl
theorem t1_167 : (Jvm.Cond.methodLink "BuildDisk$Head" (29 : Nat) ({ cls := "BuildDisk$Head", name := "areaAt", desc := "([BI)I" } : Jvm.MethodName)) ∈ lw_T := lw_in1 167 rfl rfl
theorem t1_168 : (Jvm.Cond.static ({ cls := "BuildDisk$Head", name := "areaAt", desc := "([BI)I" } : Jvm.MethodName)) ∈ lw_T := lw_in1 168 rfl rfl
theorem t1_169 : (Jvm.Cond.code ({ cls := "BuildDisk$Head", name := "areaAt", desc := "([BI)I" } : Jvm.MethodName) prog_3_method_6_code (2 : Nat) (Option.some Jvm.ClassFile.FieldType.int)) ∈ lw_T := lw_in1 169 rfl rfl
theorem t1_170 : (Jvm.Cond.methodLink "BuildDisk$Head" (32 : Nat) ({ cls := "BuildDisk$Numbers", name := "hasSum", desc := "([BIII)Z" } : Jvm.MethodName)) ∈ lw_T := lw_in1 170 rfl rfl
theorem t1_171 : (Jvm.Cond.static ({ cls := "BuildDisk$Numbers", name := "hasSum", desc := "([BIII)Z" } : Jvm.MethodName)) ∈ lw_T := lw_in1 171 rfl rfl
theorem t1_172 : (Jvm.Cond.code ({ cls := "BuildDisk$Numbers", name := "hasSum", desc := "([BIII)Z" } : Jvm.MethodName) prog_4_method_5_code (4 : Nat) (Option.some Jvm.ClassFile.FieldType.boolean)) ∈ lw_T := lw_in1 172 rfl rfl
theorem t1_173 : (Jvm.Cond.methodLink "BuildDisk$Numbers" (10 : Nat) ({ cls := "BuildDisk$Numbers", name := "read", desc := "([BII)J" } : Jvm.MethodName)) ∈ lw_T := lw_in1 173 rfl rfl
theorem t1_174 : (Jvm.Cond.methodLink "BuildDisk$Numbers" (14 : Nat) ({ cls := "BuildDisk$Numbers", name := "sum", desc := "([BIII)I" } : Jvm.MethodName)) ∈ lw_T := lw_in1 174 rfl rfl
theorem t1_175 : (Jvm.Cond.static ({ cls := "BuildDisk$Numbers", name := "sum", desc := "([BIII)I" } : Jvm.MethodName)) ∈ lw_T := lw_in1 175 rfl rfl
theorem t1_176 : (Jvm.Cond.code ({ cls := "BuildDisk$Numbers", name := "sum", desc := "([BIII)I" } : Jvm.MethodName) prog_4_method_4_code (7 : Nat) (Option.some Jvm.ClassFile.FieldType.int)) ∈ lw_T := lw_in1 176 rfl rfl
theorem t1_177 : (Jvm.Cond.constant "BuildDisk$Numbers" (9 : Nat) (-2048144777 : Int32)) ∈ lw_T := lw_in1 177 rfl rfl
theorem t1_178 : (Jvm.Cond.methodLink "BuildDisk$Head" (15 : Nat) ({ cls := "BuildDisk$Head", name := "sequenceAt", desc := "([BI)I" } : Jvm.MethodName)) ∈ lw_T := lw_in1 178 rfl rfl
theorem t1_179 : (Jvm.Cond.static ({ cls := "BuildDisk$Head", name := "sequenceAt", desc := "([BI)I" } : Jvm.MethodName)) ∈ lw_T := lw_in1 179 rfl rfl
theorem t1_180 : (Jvm.Cond.code ({ cls := "BuildDisk$Head", name := "sequenceAt", desc := "([BI)I" } : Jvm.MethodName) prog_3_method_5_code (2 : Nat) (Option.some Jvm.ClassFile.FieldType.int)) ∈ lw_T := lw_in1 180 rfl rfl
theorem t1_181 : (Jvm.Cond.methodLink "BuildDisk" (69 : Nat) ({ cls := "BuildDisk$Head", name := "editionAt", desc := "([BI)J" } : Jvm.MethodName)) ∈ lw_T := lw_in1 181 rfl rfl
theorem t1_182 : (Jvm.Cond.static ({ cls := "BuildDisk$Head", name := "editionAt", desc := "([BI)J" } : Jvm.MethodName)) ∈ lw_T := lw_in1 182 rfl rfl
theorem t1_183 : (Jvm.Cond.code ({ cls := "BuildDisk$Head", name := "editionAt", desc := "([BI)J" } : Jvm.MethodName) prog_3_method_4_code (2 : Nat) (Option.some Jvm.ClassFile.FieldType.long)) ∈ lw_T := lw_in1 183 rfl rfl
theorem t1_184 : (Jvm.Cond.methodLink "BuildDisk" (73 : Nat) ({ cls := "BuildDisk", name := "fitsEdition", desc := "(J)Z" } : Jvm.MethodName)) ∈ lw_T := lw_in1 184 rfl rfl
theorem t1_186 : (Jvm.Cond.instanceMethod ({ cls := "BuildDisk", name := "fitsEdition", desc := "(J)Z" } : Jvm.MethodName)) ∈ lw_T := lw_in1 186 rfl rfl
theorem t1_187 : (Jvm.Cond.code ({ cls := "BuildDisk", name := "fitsEdition", desc := "(J)Z" } : Jvm.MethodName) prog_1_method_19_code (3 : Nat) (Option.some Jvm.ClassFile.FieldType.boolean)) ∈ lw_T := lw_in1 187 rfl rfl
theorem t1_188 : (Jvm.Cond.methodLink "BuildDisk" (77 : Nat) ({ cls := "BuildDisk", name := "beginEmpty", desc := "()V" } : Jvm.MethodName)) ∈ lw_T := lw_in1 188 rfl rfl
theorem t1_190 : (Jvm.Cond.instanceMethod ({ cls := "BuildDisk", name := "beginEmpty", desc := "()V" } : Jvm.MethodName)) ∈ lw_T := lw_in1 190 rfl rfl
theorem t1_191 : (Jvm.Cond.code ({ cls := "BuildDisk", name := "beginEmpty", desc := "()V" } : Jvm.MethodName) prog_1_method_20_code (1 : Nat) (Option.none : Option Jvm.ClassFile.FieldType)) ∈ lw_T := lw_in1 191 rfl rfl
theorem t1_192 : (Jvm.Cond.methodLink "BuildDisk" (198 : Nat) ({ cls := "BuildDisk$Table", name := "clear", desc := "()V" } : Jvm.MethodName)) ∈ lw_T := lw_in1 192 rfl rfl
theorem t1_193 : (Jvm.Cond.instanceMethod ({ cls := "BuildDisk$Table", name := "clear", desc := "()V" } : Jvm.MethodName)) ∈ lw_T := lw_in1 193 rfl rfl
theorem t1_194 : (Jvm.Cond.selects "BuildDisk$Table" ({ cls := "BuildDisk$Table", name := "clear", desc := "()V" } : Jvm.MethodName) ({ cls := "BuildDisk$Table", name := "clear", desc := "()V" } : Jvm.MethodName)) ∈ lw_T := lw_in1 194 rfl rfl
theorem t1_195 : (Jvm.Cond.code ({ cls := "BuildDisk$Table", name := "clear", desc := "()V" } : Jvm.MethodName) prog_5_method_16_code (1 : Nat) (Option.none : Option Jvm.ClassFile.FieldType)) ∈ lw_T := lw_in1 195 rfl rfl
theorem t1_196 : (Jvm.Cond.methodLink "BuildDisk$Table" (48 : Nat) ({ cls := "BuildDisk$Table", name := "index", desc := "()V" } : Jvm.MethodName)) ∈ lw_T := lw_in1 196 rfl rfl
theorem t1_198 : (Jvm.Cond.instanceMethod ({ cls := "BuildDisk$Table", name := "index", desc := "()V" } : Jvm.MethodName)) ∈ lw_T := lw_in1 198 rfl rfl
theorem t1_199 : (Jvm.Cond.code ({ cls := "BuildDisk$Table", name := "index", desc := "()V" } : Jvm.MethodName) prog_5_method_26_code (2 : Nat) (Option.none : Option Jvm.ClassFile.FieldType)) ∈ lw_T := lw_in1 199 rfl rfl
theorem t1_2 : (Jvm.Cond.initialized "java/lang/Math") ∈ lw_T := lw_in1 2 rfl rfl
theorem t1_200 : (Jvm.Cond.methodLink "BuildDisk$Table" (59 : Nat) ({ cls := "BuildDisk$Table", name := "indexPlace", desc := "(I)V" } : Jvm.MethodName)) ∈ lw_T := lw_in1 200 rfl rfl
theorem t1_202 : (Jvm.Cond.instanceMethod ({ cls := "BuildDisk$Table", name := "indexPlace", desc := "(I)V" } : Jvm.MethodName)) ∈ lw_T := lw_in1 202 rfl rfl
theorem t1_203 : (Jvm.Cond.code ({ cls := "BuildDisk$Table", name := "indexPlace", desc := "(I)V" } : Jvm.MethodName) prog_5_method_27_code (2 : Nat) (Option.none : Option Jvm.ClassFile.FieldType)) ∈ lw_T := lw_in1 203 rfl rfl
theorem t1_204 : (Jvm.Cond.methodLink "BuildDisk" (201 : Nat) ({ cls := "BuildDisk", name := "clearArea", desc := "(I)V" } : Jvm.MethodName)) ∈ lw_T := lw_in1 204 rfl rfl
theorem t1_206 : (Jvm.Cond.instanceMethod ({ cls := "BuildDisk", name := "clearArea", desc := "(I)V" } : Jvm.MethodName)) ∈ lw_T := lw_in1 206 rfl rfl
theorem t1_207 : (Jvm.Cond.code ({ cls := "BuildDisk", name := "clearArea", desc := "(I)V" } : Jvm.MethodName) prog_1_method_23_code (4 : Nat) (Option.none : Option Jvm.ClassFile.FieldType)) ∈ lw_T := lw_in1 207 rfl rfl
theorem t1_208 : (Jvm.Cond.methodLink "BuildDisk" (211 : Nat) ({ cls := "BuildDisk", name := "firstSector", desc := "(I)I" } : Jvm.MethodName)) ∈ lw_T := lw_in1 208 rfl rfl
theorem t1_210 : (Jvm.Cond.instanceMethod ({ cls := "BuildDisk", name := "firstSector", desc := "(I)I" } : Jvm.MethodName)) ∈ lw_T := lw_in1 210 rfl rfl
theorem t1_211 : (Jvm.Cond.code ({ cls := "BuildDisk", name := "firstSector", desc := "(I)I" } : Jvm.MethodName) prog_1_method_22_code (2 : Nat) (Option.some Jvm.ClassFile.FieldType.int)) ∈ lw_T := lw_in1 211 rfl rfl
theorem t1_212 : (Jvm.Cond.methodLink "BuildDisk" (218 : Nat) ({ cls := "BuildDisk$Disk", name := "waitWithZeros", desc := "(I)I" } : Jvm.MethodName)) ∈ lw_T := lw_in1 212 rfl rfl
theorem t1_213 : (Jvm.Cond.instanceMethod ({ cls := "BuildDisk$Disk", name := "waitWithZeros", desc := "(I)I" } : Jvm.MethodName)) ∈ lw_T := lw_in1 213 rfl rfl
theorem t1_214 : (Jvm.Cond.selects "BuildDisk$Disk" ({ cls := "BuildDisk$Disk", name := "waitWithZeros", desc := "(I)I" } : Jvm.MethodName) ({ cls := "BuildDisk$Disk", name := "waitWithZeros", desc := "(I)I" } : Jvm.MethodName)) ∈ lw_T := lw_in1 214 rfl rfl
theorem t1_215 : (Jvm.Cond.code ({ cls := "BuildDisk$Disk", name := "waitWithZeros", desc := "(I)I" } : Jvm.MethodName) prog_2_method_3_code (4 : Nat) (Option.some Jvm.ClassFile.FieldType.int)) ∈ lw_T := lw_in1 215 rfl rfl
theorem t1_216 : (Jvm.Cond.methodLink "BuildDisk$Disk" (30 : Nat) ({ cls := "BuildDisk$Disk", name := "bring", desc := "(II)I" } : Jvm.MethodName)) ∈ lw_T := lw_in1 216 rfl rfl
theorem t1_217 : (Jvm.Cond.instanceMethod ({ cls := "BuildDisk$Disk", name := "bring", desc := "(II)I" } : Jvm.MethodName)) ∈ lw_T := lw_in1 217 rfl rfl
theorem t1_218 : (Jvm.Cond.selects "BuildDisk$Disk" ({ cls := "BuildDisk$Disk", name := "bring", desc := "(II)I" } : Jvm.MethodName) ({ cls := "BuildDisk$Disk", name := "bring", desc := "(II)I" } : Jvm.MethodName)) ∈ lw_T := lw_in1 218 rfl rfl
theorem t1_219 : (Jvm.Cond.code ({ cls := "BuildDisk$Disk", name := "bring", desc := "(II)I" } : Jvm.MethodName) prog_2_method_5_code (6 : Nat) (Option.some Jvm.ClassFile.FieldType.int)) ∈ lw_T := lw_in1 219 rfl rfl
theorem t1_220 : (Jvm.Cond.methodLink "BuildDisk$Disk" (47 : Nat) ({ cls := "java/lang/Math", name := "min", desc := "(II)I" } : Jvm.MethodName)) ∈ lw_T := lw_in1 220 rfl rfl
theorem t1_221 : (Jvm.Cond.methodLink "BuildDisk$Disk" (41 : Nat) ({ cls := "java/lang/System", name := "arraycopy", desc := "(Ljava/lang/Object;ILjava/lang/Object;II)V" } : Jvm.MethodName)) ∈ lw_T := lw_in1 221 rfl rfl
theorem t1_222 : (Jvm.Cond.static ({ cls := "java/lang/System", name := "arraycopy", desc := "(Ljava/lang/Object;ILjava/lang/Object;II)V" } : Jvm.MethodName)) ∈ lw_T := lw_in1 222 rfl rfl
theorem t1_223 : (Jvm.Cond.native ({ cls := "java/lang/System", name := "arraycopy", desc := "(Ljava/lang/Object;ILjava/lang/Object;II)V" } : Jvm.MethodName)) ∈ lw_T := lw_in1 223 rfl rfl
theorem t1_224 : (Jvm.Cond.methodLink "BuildDisk$Disk" (34 : Nat) ({ cls := "BuildDisk$Disk", name := "addTarget", desc := "(I)I" } : Jvm.MethodName)) ∈ lw_T := lw_in1 224 rfl rfl
theorem t1_226 : (Jvm.Cond.instanceMethod ({ cls := "BuildDisk$Disk", name := "addTarget", desc := "(I)I" } : Jvm.MethodName)) ∈ lw_T := lw_in1 226 rfl rfl
theorem t1_227 : (Jvm.Cond.code ({ cls := "BuildDisk$Disk", name := "addTarget", desc := "(I)I" } : Jvm.MethodName) prog_2_method_6_code (3 : Nat) (Option.some Jvm.ClassFile.FieldType.int)) ∈ lw_T := lw_in1 227 rfl rfl
theorem t1_228 : (Jvm.Cond.methodLink "BuildDisk" (80 : Nat) ({ cls := "BuildDisk", name := "beginBy", desc := "(I)V" } : Jvm.MethodName)) ∈ lw_T := lw_in1 228 rfl rfl
theorem t1_23 : (Jvm.Cond.methodLink "BuildDisk" (9 : Nat) ({ cls := "java/lang/Math", name := "max", desc := "(II)I" } : Jvm.MethodName)) ∈ lw_T := lw_in1 23 rfl rfl
theorem t1_230 : (Jvm.Cond.instanceMethod ({ cls := "BuildDisk", name := "beginBy", desc := "(I)V" } : Jvm.MethodName)) ∈ lw_T := lw_in1 230 rfl rfl
theorem t1_231 : (Jvm.Cond.code ({ cls := "BuildDisk", name := "beginBy", desc := "(I)V" } : Jvm.MethodName) prog_1_method_21_code (2 : Nat) (Option.none : Option Jvm.ClassFile.FieldType)) ∈ lw_T := lw_in1 231 rfl rfl
theorem t1_232 : (Jvm.Cond.methodLink "BuildDisk" (204 : Nat) ({ cls := "BuildDisk$Head", name := "sequenceAt", desc := "([BI)I" } : Jvm.MethodName)) ∈ lw_T := lw_in1 232 rfl rfl
theorem t1_233 : (Jvm.Cond.methodLink "BuildDisk" (208 : Nat) ({ cls := "BuildDisk$Head", name := "areaAt", desc := "([BI)I" } : Jvm.MethodName)) ∈ lw_T := lw_in1 233 rfl rfl
theorem t1_234 : (Jvm.Cond.methodLink "BuildDisk" (214 : Nat) ({ cls := "BuildDisk$Table", name := "read", desc := "([BI)V" } : Jvm.MethodName)) ∈ lw_T := lw_in1 234 rfl rfl
theorem t1_235 : (Jvm.Cond.instanceMethod ({ cls := "BuildDisk$Table", name := "read", desc := "([BI)V" } : Jvm.MethodName)) ∈ lw_T := lw_in1 235 rfl rfl
theorem t1_236 : (Jvm.Cond.selects "BuildDisk$Table" ({ cls := "BuildDisk$Table", name := "read", desc := "([BI)V" } : Jvm.MethodName) ({ cls := "BuildDisk$Table", name := "read", desc := "([BI)V" } : Jvm.MethodName)) ∈ lw_T := lw_in1 236 rfl rfl
theorem t1_237 : (Jvm.Cond.code ({ cls := "BuildDisk$Table", name := "read", desc := "([BI)V" } : Jvm.MethodName) prog_5_method_17_code (5 : Nat) (Option.none : Option Jvm.ClassFile.FieldType)) ∈ lw_T := lw_in1 237 rfl rfl
theorem t1_238 : (Jvm.Cond.methodLink "BuildDisk$Table" (51 : Nat) ({ cls := "BuildDisk$Table", name := "isRow", desc := "([BII)Z" } : Jvm.MethodName)) ∈ lw_T := lw_in1 238 rfl rfl
theorem t1_239 : (Jvm.Cond.static ({ cls := "BuildDisk$Table", name := "isRow", desc := "([BII)Z" } : Jvm.MethodName)) ∈ lw_T := lw_in1 239 rfl rfl
theorem t1_24 : (Jvm.Cond.static ({ cls := "java/lang/Math", name := "max", desc := "(II)I" } : Jvm.MethodName)) ∈ lw_T := lw_in1 24 rfl rfl
theorem t1_25 : (Jvm.Cond.code ({ cls := "java/lang/Math", name := "max", desc := "(II)I" } : Jvm.MethodName) prog_12_method_65_code (2 : Nat) (Option.some Jvm.ClassFile.FieldType.int)) ∈ lw_T := lw_in1 25 rfl rfl
theorem t1_26 : (Jvm.Cond.methodLink "BuildDisk" (15 : Nat) ({ cls := "java/lang/Math", name := "min", desc := "(II)I" } : Jvm.MethodName)) ∈ lw_T := lw_in1 26 rfl rfl
theorem t1_27 : (Jvm.Cond.static ({ cls := "java/lang/Math", name := "min", desc := "(II)I" } : Jvm.MethodName)) ∈ lw_T := lw_in1 27 rfl rfl
theorem t1_28 : (Jvm.Cond.code ({ cls := "java/lang/Math", name := "min", desc := "(II)I" } : Jvm.MethodName) prog_12_method_69_code (2 : Nat) (Option.some Jvm.ClassFile.FieldType.int)) ∈ lw_T := lw_in1 28 rfl rfl
theorem t1_3 : (Jvm.Cond.initialized "BuildDisk$Disk") ∈ lw_T := lw_in1 3 rfl rfl
theorem t1_38 : (Jvm.Cond.fieldLink "BuildDisk$Disk" (15 : Nat) "BuildDisk$Disk" "bytes" "[B") ∈ lw_T := lw_in1 38 rfl rfl
theorem t1_39 : (Jvm.Cond.fieldLink "BuildDisk" (59 : Nat) "BuildDisk$Disk" "bytes" "[B") ∈ lw_T := lw_in1 39 rfl rfl
theorem t1_4 : (Jvm.Cond.initialized "BuildDisk$Table") ∈ lw_T := lw_in1 4 rfl rfl
theorem t1_40 : (Jvm.Cond.fieldLink "BuildDisk$Disk" (20 : Nat) "BuildDisk$Disk" "queue" "[B") ∈ lw_T := lw_in1 40 rfl rfl
theorem t1_41 : (Jvm.Cond.fieldLink "BuildDisk" (224 : Nat) "BuildDisk$Disk" "queue" "[B") ∈ lw_T := lw_in1 41 rfl rfl
theorem t1_42 : (Jvm.Cond.fieldLink "BuildDisk$Disk" (23 : Nat) "BuildDisk$Disk" "targets" "[I") ∈ lw_T := lw_in1 42 rfl rfl
theorem t1_43 : (Jvm.Cond.fieldLink "BuildDisk$Disk" (27 : Nat) "BuildDisk$Disk" "waitCount" "I") ∈ lw_T := lw_in1 43 rfl rfl
theorem t1_44 : (Jvm.Cond.laysFinal "BuildDisk$Disk" "BuildDisk$Disk" "sectors" "I") ∈ lw_T := lw_in1 44 rfl rfl
theorem t1_46 : (Jvm.Cond.laysFinal "BuildDisk$Disk" "BuildDisk$Disk" "bytes" "[B") ∈ lw_T := lw_in1 46 rfl rfl
theorem t1_48 : (Jvm.Cond.laysFinal "BuildDisk$Disk" "BuildDisk$Disk" "queue" "[B") ∈ lw_T := lw_in1 48 rfl rfl
theorem t1_5 : (Jvm.Cond.initialized "BuildDisk$Unkept") ∈ lw_T := lw_in1 5 rfl rfl
theorem t1_50 : (Jvm.Cond.laysFinal "BuildDisk$Disk" "BuildDisk$Disk" "targets" "[I") ∈ lw_T := lw_in1 50 rfl rfl
theorem t1_52 : (Jvm.Cond.lays "BuildDisk$Disk" "BuildDisk$Disk" "waitCount" "I") ∈ lw_T := lw_in1 52 rfl rfl
theorem t1_63 : (Jvm.Cond.fieldLink "BuildDisk$Table" (9 : Nat) "BuildDisk$Table" "kinds" "[I") ∈ lw_T := lw_in1 63 rfl rfl
theorem t1_64 : (Jvm.Cond.fieldLink "BuildDisk$Table" (15 : Nat) "BuildDisk$Table" "names" "[I") ∈ lw_T := lw_in1 64 rfl rfl
theorem t1_65 : (Jvm.Cond.fieldLink "BuildDisk$Table" (18 : Nat) "BuildDisk$Table" "askCounts" "[I") ∈ lw_T := lw_in1 65 rfl rfl
theorem t1_66 : (Jvm.Cond.fieldLink "BuildDisk$Table" (21 : Nat) "BuildDisk$Table" "askKeys" "[I") ∈ lw_T := lw_in1 66 rfl rfl
theorem t1_67 : (Jvm.Cond.fieldLink "BuildDisk$Table" (24 : Nat) "BuildDisk$Table" "digests" "[J") ∈ lw_T := lw_in1 67 rfl rfl
theorem t1_68 : (Jvm.Cond.fieldLink "BuildDisk$Table" (28 : Nat) "BuildDisk$Table" "latestPlaces" "[I") ∈ lw_T := lw_in1 68 rfl rfl
theorem t1_69 : (Jvm.Cond.fieldLink "BuildDisk$Table" (41 : Nat) "BuildDisk$Table" "lockPlace" "I") ∈ lw_T := lw_in1 69 rfl rfl
theorem t1_7 : (Jvm.Cond.initialized "BuildDisk$Head") ∈ lw_T := lw_in1 7 rfl rfl
theorem t1_70 : (Jvm.Cond.fieldLink "BuildDisk$Table" (31 : Nat) "BuildDisk$Table" "rowsEnd" "I") ∈ lw_T := lw_in1 70 rfl rfl
theorem t1_71 : (Jvm.Cond.fieldLink "BuildDisk$Table" (35 : Nat) "BuildDisk$Table" "wrongPlaces" "I") ∈ lw_T := lw_in1 71 rfl rfl
theorem t1_72 : (Jvm.Cond.fieldLink "BuildDisk$Table" (38 : Nat) "BuildDisk$Table" "lastWrong" "I") ∈ lw_T := lw_in1 72 rfl rfl
theorem t1_73 : (Jvm.Cond.laysFinal "BuildDisk$Table" "BuildDisk$Table" "kinds" "[I") ∈ lw_T := lw_in1 73 rfl rfl
theorem t1_75 : (Jvm.Cond.laysFinal "BuildDisk$Table" "BuildDisk$Table" "names" "[I") ∈ lw_T := lw_in1 75 rfl rfl
theorem t1_77 : (Jvm.Cond.laysFinal "BuildDisk$Table" "BuildDisk$Table" "askCounts" "[I") ∈ lw_T := lw_in1 77 rfl rfl
theorem t1_79 : (Jvm.Cond.laysFinal "BuildDisk$Table" "BuildDisk$Table" "askKeys" "[I") ∈ lw_T := lw_in1 79 rfl rfl
theorem t1_8 : (Jvm.Cond.initialized "BuildDisk$Numbers") ∈ lw_T := lw_in1 8 rfl rfl
theorem t1_81 : (Jvm.Cond.laysFinal "BuildDisk$Table" "BuildDisk$Table" "digests" "[J") ∈ lw_T := lw_in1 81 rfl rfl
theorem t1_83 : (Jvm.Cond.laysFinal "BuildDisk$Table" "BuildDisk$Table" "latestPlaces" "[I") ∈ lw_T := lw_in1 83 rfl rfl
theorem t1_85 : (Jvm.Cond.lays "BuildDisk$Table" "BuildDisk$Table" "lockPlace" "I") ∈ lw_T := lw_in1 85 rfl rfl
theorem t1_87 : (Jvm.Cond.lays "BuildDisk$Table" "BuildDisk$Table" "rowsEnd" "I") ∈ lw_T := lw_in1 87 rfl rfl
theorem t1_89 : (Jvm.Cond.lays "BuildDisk$Table" "BuildDisk$Table" "wrongPlaces" "I") ∈ lw_T := lw_in1 89 rfl rfl
theorem t1_9 : (Jvm.Cond.initialized "java/lang/System") ∈ lw_T := lw_in1 9 rfl rfl
theorem t1_91 : (Jvm.Cond.lays "BuildDisk$Table" "BuildDisk$Table" "lastWrong" "I") ∈ lw_T := lw_in1 91 rfl rfl
theorem t2_0 : (Jvm.Cond.code ({ cls := "BuildDisk$Table", name := "isRow", desc := "([BII)Z" } : Jvm.MethodName) prog_5_method_22_code (6 : Nat) (Option.some Jvm.ClassFile.FieldType.boolean)) ∈ lw_T := lw_in2 0 rfl rfl
theorem t2_1 : (Jvm.Cond.methodLink "BuildDisk$Table" (81 : Nat) ({ cls := "BuildDisk$Table", name := "isKey", desc := "(I)Z" } : Jvm.MethodName)) ∈ lw_T := lw_in2 1 rfl rfl
theorem t2_10 : (Jvm.Cond.methodLink "BuildDisk$Table" (90 : Nat) ({ cls := "BuildDisk$Numbers", name := "hasSum", desc := "([BIII)Z" } : Jvm.MethodName)) ∈ lw_T := lw_in2 10 rfl rfl
theorem t2_100 : (Jvm.Cond.methodLink "BuildDisk" (124 : Nat) ({ cls := "BuildDisk$Table", name := "addAsk", desc := "(II)V" } : Jvm.MethodName)) ∈ lw_T := lw_in2 100 rfl rfl
theorem t2_101 : (Jvm.Cond.instanceMethod ({ cls := "BuildDisk$Table", name := "addAsk", desc := "(II)V" } : Jvm.MethodName)) ∈ lw_T := lw_in2 101 rfl rfl
theorem t2_102 : (Jvm.Cond.selects "BuildDisk$Table" ({ cls := "BuildDisk$Table", name := "addAsk", desc := "(II)V" } : Jvm.MethodName) ({ cls := "BuildDisk$Table", name := "addAsk", desc := "(II)V" } : Jvm.MethodName)) ∈ lw_T := lw_in2 102 rfl rfl
theorem t2_103 : (Jvm.Cond.code ({ cls := "BuildDisk$Table", name := "addAsk", desc := "(II)V" } : Jvm.MethodName) prog_5_method_19_code (3 : Nat) (Option.none : Option Jvm.ClassFile.FieldType)) ∈ lw_T := lw_in2 103 rfl rfl
theorem t2_108 : (Jvm.Cond.methodLink "BuildDisk" (135 : Nat) ({ cls := "BuildDisk$Disk", name := "bring", desc := "(II)I" } : Jvm.MethodName)) ∈ lw_T := lw_in2 108 rfl rfl
theorem t2_11 : (Jvm.Cond.methodLink "BuildDisk$Table" (55 : Nat) ({ cls := "BuildDisk$Table", name := "readRow", desc := "([BII)V" } : Jvm.MethodName)) ∈ lw_T := lw_in2 11 rfl rfl
theorem t2_113 : (Jvm.Cond.methodLink "BuildDisk" (138 : Nat) ({ cls := "BuildDisk", name := "doStep", desc := "()Z" } : Jvm.MethodName)) ∈ lw_T := lw_in2 113 rfl rfl
theorem t2_115 : (Jvm.Cond.instanceMethod ({ cls := "BuildDisk", name := "doStep", desc := "()Z" } : Jvm.MethodName)) ∈ lw_T := lw_in2 115 rfl rfl
theorem t2_116 : (Jvm.Cond.code ({ cls := "BuildDisk", name := "doStep", desc := "()Z" } : Jvm.MethodName) prog_1_method_28_code (1 : Nat) (Option.some Jvm.ClassFile.FieldType.boolean)) ∈ lw_T := lw_in2 116 rfl rfl
theorem t2_117 : (Jvm.Cond.methodLink "BuildDisk" (246 : Nat) ({ cls := "BuildDisk", name := "takePlace", desc := "(I)V" } : Jvm.MethodName)) ∈ lw_T := lw_in2 117 rfl rfl
theorem t2_119 : (Jvm.Cond.instanceMethod ({ cls := "BuildDisk", name := "takePlace", desc := "(I)V" } : Jvm.MethodName)) ∈ lw_T := lw_in2 119 rfl rfl
theorem t2_120 : (Jvm.Cond.code ({ cls := "BuildDisk", name := "takePlace", desc := "(I)V" } : Jvm.MethodName) prog_1_method_29_code (2 : Nat) (Option.none : Option Jvm.ClassFile.FieldType)) ∈ lw_T := lw_in2 120 rfl rfl
theorem t2_121 : (Jvm.Cond.methodLink "BuildDisk" (252 : Nat) ({ cls := "BuildDisk$Table", name := "isToCopy", desc := "(I)Z" } : Jvm.MethodName)) ∈ lw_T := lw_in2 121 rfl rfl
theorem t2_122 : (Jvm.Cond.instanceMethod ({ cls := "BuildDisk$Table", name := "isToCopy", desc := "(I)Z" } : Jvm.MethodName)) ∈ lw_T := lw_in2 122 rfl rfl
theorem t2_123 : (Jvm.Cond.selects "BuildDisk$Table" ({ cls := "BuildDisk$Table", name := "isToCopy", desc := "(I)Z" } : Jvm.MethodName) ({ cls := "BuildDisk$Table", name := "isToCopy", desc := "(I)Z" } : Jvm.MethodName)) ∈ lw_T := lw_in2 123 rfl rfl
theorem t2_124 : (Jvm.Cond.code ({ cls := "BuildDisk$Table", name := "isToCopy", desc := "(I)Z" } : Jvm.MethodName) prog_5_method_15_code (2 : Nat) (Option.some Jvm.ClassFile.FieldType.boolean)) ∈ lw_T := lw_in2 124 rfl rfl
theorem t2_125 : (Jvm.Cond.methodLink "BuildDisk$Table" (44 : Nat) ({ cls := "BuildDisk$Table", name := "isWrongBehind", desc := "(I)Z" } : Jvm.MethodName)) ∈ lw_T := lw_in2 125 rfl rfl
theorem t2_126 : (Jvm.Cond.instanceMethod ({ cls := "BuildDisk$Table", name := "isWrongBehind", desc := "(I)Z" } : Jvm.MethodName)) ∈ lw_T := lw_in2 126 rfl rfl
theorem t2_127 : (Jvm.Cond.selects "BuildDisk$Table" ({ cls := "BuildDisk$Table", name := "isWrongBehind", desc := "(I)Z" } : Jvm.MethodName) ({ cls := "BuildDisk$Table", name := "isWrongBehind", desc := "(I)Z" } : Jvm.MethodName)) ∈ lw_T := lw_in2 127 rfl rfl
theorem t2_128 : (Jvm.Cond.code ({ cls := "BuildDisk$Table", name := "isWrongBehind", desc := "(I)Z" } : Jvm.MethodName) prog_5_method_13_code (2 : Nat) (Option.some Jvm.ClassFile.FieldType.boolean)) ∈ lw_T := lw_in2 128 rfl rfl
theorem t2_129 : (Jvm.Cond.methodLink "BuildDisk" (249 : Nat) ({ cls := "BuildDisk", name := "endCompaction", desc := "()V" } : Jvm.MethodName)) ∈ lw_T := lw_in2 129 rfl rfl
theorem t2_13 : (Jvm.Cond.instanceMethod ({ cls := "BuildDisk$Table", name := "readRow", desc := "([BII)V" } : Jvm.MethodName)) ∈ lw_T := lw_in2 13 rfl rfl
theorem t2_131 : (Jvm.Cond.instanceMethod ({ cls := "BuildDisk", name := "endCompaction", desc := "()V" } : Jvm.MethodName)) ∈ lw_T := lw_in2 131 rfl rfl
theorem t2_132 : (Jvm.Cond.code ({ cls := "BuildDisk", name := "endCompaction", desc := "()V" } : Jvm.MethodName) prog_1_method_30_code (1 : Nat) (Option.none : Option Jvm.ClassFile.FieldType)) ∈ lw_T := lw_in2 132 rfl rfl
theorem t2_133 : (Jvm.Cond.methodLink "BuildDisk" (255 : Nat) ({ cls := "BuildDisk$Table", name := "keepOnly", desc := "([II)V" } : Jvm.MethodName)) ∈ lw_T := lw_in2 133 rfl rfl
theorem t2_134 : (Jvm.Cond.instanceMethod ({ cls := "BuildDisk$Table", name := "keepOnly", desc := "([II)V" } : Jvm.MethodName)) ∈ lw_T := lw_in2 134 rfl rfl
theorem t2_135 : (Jvm.Cond.selects "BuildDisk$Table" ({ cls := "BuildDisk$Table", name := "keepOnly", desc := "([II)V" } : Jvm.MethodName) ({ cls := "BuildDisk$Table", name := "keepOnly", desc := "([II)V" } : Jvm.MethodName)) ∈ lw_T := lw_in2 135 rfl rfl
theorem t2_136 : (Jvm.Cond.code ({ cls := "BuildDisk$Table", name := "keepOnly", desc := "([II)V" } : Jvm.MethodName) prog_5_method_20_code (4 : Nat) (Option.none : Option Jvm.ClassFile.FieldType)) ∈ lw_T := lw_in2 136 rfl rfl
theorem t2_137 : (Jvm.Cond.methodLink "BuildDisk$Table" (63 : Nat) ({ cls := "BuildDisk$Table", name := "move", desc := "(II)V" } : Jvm.MethodName)) ∈ lw_T := lw_in2 137 rfl rfl
theorem t2_139 : (Jvm.Cond.instanceMethod ({ cls := "BuildDisk$Table", name := "move", desc := "(II)V" } : Jvm.MethodName)) ∈ lw_T := lw_in2 139 rfl rfl
theorem t2_14 : (Jvm.Cond.code ({ cls := "BuildDisk$Table", name := "readRow", desc := "([BII)V" } : Jvm.MethodName) prog_5_method_24_code (5 : Nat) (Option.none : Option Jvm.ClassFile.FieldType)) ∈ lw_T := lw_in2 14 rfl rfl
theorem t2_140 : (Jvm.Cond.code ({ cls := "BuildDisk$Table", name := "move", desc := "(II)V" } : Jvm.MethodName) prog_5_method_25_code (4 : Nat) (Option.none : Option Jvm.ClassFile.FieldType)) ∈ lw_T := lw_in2 140 rfl rfl
theorem t2_145 : (Jvm.Cond.methodLink "BuildDisk" (142 : Nat) ({ cls := "BuildDisk$Unkept", name := "forgetAll", desc := "()V" } : Jvm.MethodName)) ∈ lw_T := lw_in2 145 rfl rfl
theorem t2_146 : (Jvm.Cond.instanceMethod ({ cls := "BuildDisk$Unkept", name := "forgetAll", desc := "()V" } : Jvm.MethodName)) ∈ lw_T := lw_in2 146 rfl rfl
theorem t2_147 : (Jvm.Cond.selects "BuildDisk$Unkept" ({ cls := "BuildDisk$Unkept", name := "forgetAll", desc := "()V" } : Jvm.MethodName) ({ cls := "BuildDisk$Unkept", name := "forgetAll", desc := "()V" } : Jvm.MethodName)) ∈ lw_T := lw_in2 147 rfl rfl
theorem t2_148 : (Jvm.Cond.code ({ cls := "BuildDisk$Unkept", name := "forgetAll", desc := "()V" } : Jvm.MethodName) prog_6_method_7_code (2 : Nat) (Option.none : Option Jvm.ClassFile.FieldType)) ∈ lw_T := lw_in2 148 rfl rfl
theorem t2_15 : (Jvm.Cond.methodLink "BuildDisk$Table" (94 : Nat) ({ cls := "BuildDisk$Numbers", name := "read", desc := "([BII)J" } : Jvm.MethodName)) ∈ lw_T := lw_in2 15 rfl rfl
theorem t2_153 : (Jvm.Cond.methodLink "BuildDisk" (145 : Nat) ({ cls := "BuildDisk$Unkept", name := "has", desc := "(I)Z" } : Jvm.MethodName)) ∈ lw_T := lw_in2 153 rfl rfl
theorem t2_154 : (Jvm.Cond.instanceMethod ({ cls := "BuildDisk$Unkept", name := "has", desc := "(I)Z" } : Jvm.MethodName)) ∈ lw_T := lw_in2 154 rfl rfl
theorem t2_155 : (Jvm.Cond.selects "BuildDisk$Unkept" ({ cls := "BuildDisk$Unkept", name := "has", desc := "(I)Z" } : Jvm.MethodName) ({ cls := "BuildDisk$Unkept", name := "has", desc := "(I)Z" } : Jvm.MethodName)) ∈ lw_T := lw_in2 155 rfl rfl
theorem t2_156 : (Jvm.Cond.code ({ cls := "BuildDisk$Unkept", name := "has", desc := "(I)Z" } : Jvm.MethodName) prog_6_method_2_code (2 : Nat) (Option.some Jvm.ClassFile.FieldType.boolean)) ∈ lw_T := lw_in2 156 rfl rfl
theorem t2_157 : (Jvm.Cond.methodLink "BuildDisk" (148 : Nat) ({ cls := "BuildDisk$Unkept", name := "digestOf", desc := "(I)J" } : Jvm.MethodName)) ∈ lw_T := lw_in2 157 rfl rfl
theorem t2_158 : (Jvm.Cond.instanceMethod ({ cls := "BuildDisk$Unkept", name := "digestOf", desc := "(I)J" } : Jvm.MethodName)) ∈ lw_T := lw_in2 158 rfl rfl
theorem t2_159 : (Jvm.Cond.selects "BuildDisk$Unkept" ({ cls := "BuildDisk$Unkept", name := "digestOf", desc := "(I)J" } : Jvm.MethodName) ({ cls := "BuildDisk$Unkept", name := "digestOf", desc := "(I)J" } : Jvm.MethodName)) ∈ lw_T := lw_in2 159 rfl rfl
theorem t2_16 : (Jvm.Cond.methodLink "BuildDisk" (86 : Nat) ({ cls := "BuildDisk$Table", name := "wrongCount", desc := "()I" } : Jvm.MethodName)) ∈ lw_T := lw_in2 16 rfl rfl
theorem t2_160 : (Jvm.Cond.code ({ cls := "BuildDisk$Unkept", name := "digestOf", desc := "(I)J" } : Jvm.MethodName) prog_6_method_3_code (2 : Nat) (Option.some Jvm.ClassFile.FieldType.long)) ∈ lw_T := lw_in2 160 rfl rfl
theorem t2_161 : (Jvm.Cond.methodLink "BuildDisk" (152 : Nat) ({ cls := "BuildDisk$Table", name := "latest", desc := "(I)I" } : Jvm.MethodName)) ∈ lw_T := lw_in2 161 rfl rfl
theorem t2_162 : (Jvm.Cond.instanceMethod ({ cls := "BuildDisk$Table", name := "latest", desc := "(I)I" } : Jvm.MethodName)) ∈ lw_T := lw_in2 162 rfl rfl
theorem t2_163 : (Jvm.Cond.selects "BuildDisk$Table" ({ cls := "BuildDisk$Table", name := "latest", desc := "(I)I" } : Jvm.MethodName) ({ cls := "BuildDisk$Table", name := "latest", desc := "(I)I" } : Jvm.MethodName)) ∈ lw_T := lw_in2 163 rfl rfl
theorem t2_164 : (Jvm.Cond.code ({ cls := "BuildDisk$Table", name := "latest", desc := "(I)I" } : Jvm.MethodName) prog_5_method_12_code (2 : Nat) (Option.some Jvm.ClassFile.FieldType.int)) ∈ lw_T := lw_in2 164 rfl rfl
theorem t2_165 : (Jvm.Cond.methodLink "BuildDisk" (155 : Nat) ({ cls := "BuildDisk$Table", name := "digestAt", desc := "(I)J" } : Jvm.MethodName)) ∈ lw_T := lw_in2 165 rfl rfl
theorem t2_166 : (Jvm.Cond.instanceMethod ({ cls := "BuildDisk$Table", name := "digestAt", desc := "(I)J" } : Jvm.MethodName)) ∈ lw_T := lw_in2 166 rfl rfl
theorem t2_167 : (Jvm.Cond.selects "BuildDisk$Table" ({ cls := "BuildDisk$Table", name := "digestAt", desc := "(I)J" } : Jvm.MethodName) ({ cls := "BuildDisk$Table", name := "digestAt", desc := "(I)J" } : Jvm.MethodName)) ∈ lw_T := lw_in2 167 rfl rfl
theorem t2_168 : (Jvm.Cond.code ({ cls := "BuildDisk$Table", name := "digestAt", desc := "(I)J" } : Jvm.MethodName) prog_5_method_11_code (2 : Nat) (Option.some Jvm.ClassFile.FieldType.long)) ∈ lw_T := lw_in2 168 rfl rfl
theorem t2_17 : (Jvm.Cond.instanceMethod ({ cls := "BuildDisk$Table", name := "wrongCount", desc := "()I" } : Jvm.MethodName)) ∈ lw_T := lw_in2 17 rfl rfl
theorem t2_173 : (Jvm.Cond.methodLink "BuildDisk" (158 : Nat) ({ cls := "BuildDisk$Table", name := "askAt", desc := "(II)I" } : Jvm.MethodName)) ∈ lw_T := lw_in2 173 rfl rfl
theorem t2_178 : (Jvm.Cond.methodLink "BuildDisk" (161 : Nat) ({ cls := "BuildDisk$Table", name := "isWrongBehind", desc := "(I)Z" } : Jvm.MethodName)) ∈ lw_T := lw_in2 178 rfl rfl
theorem t2_179 : (Jvm.Cond.methodLink "BuildDisk" (164 : Nat) ({ cls := "BuildDisk", name := "allAskedAhead", desc := "(I)Z" } : Jvm.MethodName)) ∈ lw_T := lw_in2 179 rfl rfl
theorem t2_18 : (Jvm.Cond.selects "BuildDisk$Table" ({ cls := "BuildDisk$Table", name := "wrongCount", desc := "()I" } : Jvm.MethodName) ({ cls := "BuildDisk$Table", name := "wrongCount", desc := "()I" } : Jvm.MethodName)) ∈ lw_T := lw_in2 18 rfl rfl
theorem t2_181 : (Jvm.Cond.instanceMethod ({ cls := "BuildDisk", name := "allAskedAhead", desc := "(I)Z" } : Jvm.MethodName)) ∈ lw_T := lw_in2 181 rfl rfl
theorem t2_182 : (Jvm.Cond.code ({ cls := "BuildDisk", name := "allAskedAhead", desc := "(I)Z" } : Jvm.MethodName) prog_1_method_27_code (6 : Nat) (Option.some Jvm.ClassFile.FieldType.boolean)) ∈ lw_T := lw_in2 182 rfl rfl
theorem t2_19 : (Jvm.Cond.code ({ cls := "BuildDisk$Table", name := "wrongCount", desc := "()I" } : Jvm.MethodName) prog_5_method_7_code (1 : Nat) (Option.some Jvm.ClassFile.FieldType.int)) ∈ lw_T := lw_in2 19 rfl rfl
theorem t2_195 : (Jvm.Cond.methodLink "BuildDisk" (177 : Nat) ({ cls := "BuildDisk$Table", name := "isUser", desc := "(I)Z" } : Jvm.MethodName)) ∈ lw_T := lw_in2 195 rfl rfl
theorem t2_196 : (Jvm.Cond.methodLink "BuildDisk" (180 : Nat) ({ cls := "BuildDisk$Table", name := "lockHolder", desc := "()I" } : Jvm.MethodName)) ∈ lw_T := lw_in2 196 rfl rfl
theorem t2_197 : (Jvm.Cond.instanceMethod ({ cls := "BuildDisk$Table", name := "lockHolder", desc := "()I" } : Jvm.MethodName)) ∈ lw_T := lw_in2 197 rfl rfl
theorem t2_198 : (Jvm.Cond.selects "BuildDisk$Table" ({ cls := "BuildDisk$Table", name := "lockHolder", desc := "()I" } : Jvm.MethodName) ({ cls := "BuildDisk$Table", name := "lockHolder", desc := "()I" } : Jvm.MethodName)) ∈ lw_T := lw_in2 198 rfl rfl
theorem t2_199 : (Jvm.Cond.code ({ cls := "BuildDisk$Table", name := "lockHolder", desc := "()I" } : Jvm.MethodName) prog_5_method_14_code (1 : Nat) (Option.some Jvm.ClassFile.FieldType.int)) ∈ lw_T := lw_in2 199 rfl rfl
theorem t2_2 : (Jvm.Cond.static ({ cls := "BuildDisk$Table", name := "isKey", desc := "(I)Z" } : Jvm.MethodName)) ∈ lw_T := lw_in2 2 rfl rfl
theorem t2_20 : (Jvm.Cond.methodLink "BuildDisk" (93 : Nat) ({ cls := "BuildDisk$Table", name := "end", desc := "()I" } : Jvm.MethodName)) ∈ lw_T := lw_in2 20 rfl rfl
theorem t2_21 : (Jvm.Cond.instanceMethod ({ cls := "BuildDisk$Table", name := "end", desc := "()I" } : Jvm.MethodName)) ∈ lw_T := lw_in2 21 rfl rfl
theorem t2_212 : (Jvm.Cond.methodLink "BuildDisk" (183 : Nat) ({ cls := "BuildDisk$Table", name := "places", desc := "()I" } : Jvm.MethodName)) ∈ lw_T := lw_in2 212 rfl rfl
theorem t2_213 : (Jvm.Cond.instanceMethod ({ cls := "BuildDisk$Table", name := "places", desc := "()I" } : Jvm.MethodName)) ∈ lw_T := lw_in2 213 rfl rfl
theorem t2_214 : (Jvm.Cond.selects "BuildDisk$Table" ({ cls := "BuildDisk$Table", name := "places", desc := "()I" } : Jvm.MethodName) ({ cls := "BuildDisk$Table", name := "places", desc := "()I" } : Jvm.MethodName)) ∈ lw_T := lw_in2 214 rfl rfl
theorem t2_215 : (Jvm.Cond.code ({ cls := "BuildDisk$Table", name := "places", desc := "()I" } : Jvm.MethodName) prog_5_method_4_code (1 : Nat) (Option.some Jvm.ClassFile.FieldType.int)) ∈ lw_T := lw_in2 215 rfl rfl
theorem t2_216 : (Jvm.Cond.methodLink "BuildDisk" (186 : Nat) ({ cls := "BuildDisk", name := "aboutRunning", desc := "(I)I" } : Jvm.MethodName)) ∈ lw_T := lw_in2 216 rfl rfl
theorem t2_218 : (Jvm.Cond.instanceMethod ({ cls := "BuildDisk", name := "aboutRunning", desc := "(I)I" } : Jvm.MethodName)) ∈ lw_T := lw_in2 218 rfl rfl
theorem t2_219 : (Jvm.Cond.code ({ cls := "BuildDisk", name := "aboutRunning", desc := "(I)I" } : Jvm.MethodName) prog_1_method_18_code (2 : Nat) (Option.some Jvm.ClassFile.FieldType.int)) ∈ lw_T := lw_in2 219 rfl rfl
theorem t2_22 : (Jvm.Cond.selects "BuildDisk$Table" ({ cls := "BuildDisk$Table", name := "end", desc := "()I" } : Jvm.MethodName) ({ cls := "BuildDisk$Table", name := "end", desc := "()I" } : Jvm.MethodName)) ∈ lw_T := lw_in2 22 rfl rfl
theorem t2_220 : (Jvm.Cond.methodLink "BuildDisk" (189 : Nat) ({ cls := "BuildDisk$Disk", name := "waiting", desc := "()I" } : Jvm.MethodName)) ∈ lw_T := lw_in2 220 rfl rfl
theorem t2_221 : (Jvm.Cond.instanceMethod ({ cls := "BuildDisk$Disk", name := "waiting", desc := "()I" } : Jvm.MethodName)) ∈ lw_T := lw_in2 221 rfl rfl
theorem t2_222 : (Jvm.Cond.selects "BuildDisk$Disk" ({ cls := "BuildDisk$Disk", name := "waiting", desc := "()I" } : Jvm.MethodName) ({ cls := "BuildDisk$Disk", name := "waiting", desc := "()I" } : Jvm.MethodName)) ∈ lw_T := lw_in2 222 rfl rfl
theorem t2_223 : (Jvm.Cond.code ({ cls := "BuildDisk$Disk", name := "waiting", desc := "()I" } : Jvm.MethodName) prog_2_method_2_code (1 : Nat) (Option.some Jvm.ClassFile.FieldType.int)) ∈ lw_T := lw_in2 223 rfl rfl
theorem t2_224 : (Jvm.Cond.methodLink "BuildDisk" (192 : Nat) ({ cls := "BuildDisk$Unkept", name := "count", desc := "()I" } : Jvm.MethodName)) ∈ lw_T := lw_in2 224 rfl rfl
theorem t2_225 : (Jvm.Cond.instanceMethod ({ cls := "BuildDisk$Unkept", name := "count", desc := "()I" } : Jvm.MethodName)) ∈ lw_T := lw_in2 225 rfl rfl
theorem t2_226 : (Jvm.Cond.selects "BuildDisk$Unkept" ({ cls := "BuildDisk$Unkept", name := "count", desc := "()I" } : Jvm.MethodName) ({ cls := "BuildDisk$Unkept", name := "count", desc := "()I" } : Jvm.MethodName)) ∈ lw_T := lw_in2 226 rfl rfl
theorem t2_227 : (Jvm.Cond.code ({ cls := "BuildDisk$Unkept", name := "count", desc := "()I" } : Jvm.MethodName) prog_6_method_4_code (3 : Nat) (Option.some Jvm.ClassFile.FieldType.int)) ∈ lw_T := lw_in2 227 rfl rfl
theorem t2_23 : (Jvm.Cond.code ({ cls := "BuildDisk$Table", name := "end", desc := "()I" } : Jvm.MethodName) prog_5_method_5_code (1 : Nat) (Option.some Jvm.ClassFile.FieldType.int)) ∈ lw_T := lw_in2 23 rfl rfl
theorem t2_24 : (Jvm.Cond.methodLink "BuildDisk" (99 : Nat) ({ cls := "BuildDisk", name := "changeHeads", desc := "()V" } : Jvm.MethodName)) ∈ lw_T := lw_in2 24 rfl rfl
theorem t2_26 : (Jvm.Cond.instanceMethod ({ cls := "BuildDisk", name := "changeHeads", desc := "()V" } : Jvm.MethodName)) ∈ lw_T := lw_in2 26 rfl rfl
theorem t2_27 : (Jvm.Cond.code ({ cls := "BuildDisk", name := "changeHeads", desc := "()V" } : Jvm.MethodName) prog_1_method_24_code (3 : Nat) (Option.none : Option Jvm.ClassFile.FieldType)) ∈ lw_T := lw_in2 27 rfl rfl
theorem t2_28 : (Jvm.Cond.methodLink "BuildDisk" (221 : Nat) ({ cls := "java/lang/Math", name := "floorMod", desc := "(II)I" } : Jvm.MethodName)) ∈ lw_T := lw_in2 28 rfl rfl
theorem t2_29 : (Jvm.Cond.static ({ cls := "java/lang/Math", name := "floorMod", desc := "(II)I" } : Jvm.MethodName)) ∈ lw_T := lw_in2 29 rfl rfl
theorem t2_3 : (Jvm.Cond.code ({ cls := "BuildDisk$Table", name := "isKey", desc := "(I)Z" } : Jvm.MethodName) prog_5_method_2_code (1 : Nat) (Option.some Jvm.ClassFile.FieldType.boolean)) ∈ lw_T := lw_in2 3 rfl rfl
theorem t2_30 : (Jvm.Cond.code ({ cls := "java/lang/Math", name := "floorMod", desc := "(II)I" } : Jvm.MethodName) prog_12_method_50_code (3 : Nat) (Option.some Jvm.ClassFile.FieldType.int)) ∈ lw_T := lw_in2 30 rfl rfl
theorem t2_31 : (Jvm.Cond.methodLink "BuildDisk" (227 : Nat) ({ cls := "BuildDisk$Head", name := "write", desc := "([BIIII)V" } : Jvm.MethodName)) ∈ lw_T := lw_in2 31 rfl rfl
theorem t2_32 : (Jvm.Cond.static ({ cls := "BuildDisk$Head", name := "write", desc := "([BIIII)V" } : Jvm.MethodName)) ∈ lw_T := lw_in2 32 rfl rfl
theorem t2_33 : (Jvm.Cond.code ({ cls := "BuildDisk$Head", name := "write", desc := "([BIIII)V" } : Jvm.MethodName) prog_3_method_7_code (5 : Nat) (Option.none : Option Jvm.ClassFile.FieldType)) ∈ lw_T := lw_in2 33 rfl rfl
theorem t2_34 : (Jvm.Cond.methodLink "BuildDisk$Head" (36 : Nat) ({ cls := "BuildDisk$Numbers", name := "write", desc := "([BIIJ)V" } : Jvm.MethodName)) ∈ lw_T := lw_in2 34 rfl rfl
theorem t2_35 : (Jvm.Cond.static ({ cls := "BuildDisk$Numbers", name := "write", desc := "([BIIJ)V" } : Jvm.MethodName)) ∈ lw_T := lw_in2 35 rfl rfl
theorem t2_36 : (Jvm.Cond.code ({ cls := "BuildDisk$Numbers", name := "write", desc := "([BIIJ)V" } : Jvm.MethodName) prog_4_method_3_code (6 : Nat) (Option.none : Option Jvm.ClassFile.FieldType)) ∈ lw_T := lw_in2 36 rfl rfl
theorem t2_37 : (Jvm.Cond.methodLink "BuildDisk$Head" (40 : Nat) ({ cls := "BuildDisk$Numbers", name := "writeSum", desc := "([BIII)V" } : Jvm.MethodName)) ∈ lw_T := lw_in2 37 rfl rfl
theorem t2_38 : (Jvm.Cond.static ({ cls := "BuildDisk$Numbers", name := "writeSum", desc := "([BIII)V" } : Jvm.MethodName)) ∈ lw_T := lw_in2 38 rfl rfl
theorem t2_39 : (Jvm.Cond.code ({ cls := "BuildDisk$Numbers", name := "writeSum", desc := "([BIII)V" } : Jvm.MethodName) prog_4_method_6_code (4 : Nat) (Option.none : Option Jvm.ClassFile.FieldType)) ∈ lw_T := lw_in2 39 rfl rfl
theorem t2_4 : (Jvm.Cond.methodLink "BuildDisk$Table" (84 : Nat) ({ cls := "BuildDisk$Table", name := "areKeys", desc := "([BII)Z" } : Jvm.MethodName)) ∈ lw_T := lw_in2 4 rfl rfl
theorem t2_40 : (Jvm.Cond.methodLink "BuildDisk$Numbers" (18 : Nat) ({ cls := "BuildDisk$Numbers", name := "write", desc := "([BIIJ)V" } : Jvm.MethodName)) ∈ lw_T := lw_in2 40 rfl rfl
theorem t2_45 : (Jvm.Cond.methodLink "BuildDisk" (102 : Nat) ({ cls := "BuildDisk$Table", name := "isKey", desc := "(I)Z" } : Jvm.MethodName)) ∈ lw_T := lw_in2 45 rfl rfl
theorem t2_46 : (Jvm.Cond.methodLink "BuildDisk" (106 : Nat) ({ cls := "BuildDisk", name := "keep", desc := "(IIJ)I" } : Jvm.MethodName)) ∈ lw_T := lw_in2 46 rfl rfl
theorem t2_48 : (Jvm.Cond.instanceMethod ({ cls := "BuildDisk", name := "keep", desc := "(IIJ)I" } : Jvm.MethodName)) ∈ lw_T := lw_in2 48 rfl rfl
theorem t2_49 : (Jvm.Cond.code ({ cls := "BuildDisk", name := "keep", desc := "(IIJ)I" } : Jvm.MethodName) prog_1_method_25_code (6 : Nat) (Option.some Jvm.ClassFile.FieldType.int)) ∈ lw_T := lw_in2 49 rfl rfl
theorem t2_5 : (Jvm.Cond.static ({ cls := "BuildDisk$Table", name := "areKeys", desc := "([BII)Z" } : Jvm.MethodName)) ∈ lw_T := lw_in2 5 rfl rfl
theorem t2_50 : (Jvm.Cond.methodLink "BuildDisk" (231 : Nat) ({ cls := "BuildDisk$Table", name := "isFull", desc := "()Z" } : Jvm.MethodName)) ∈ lw_T := lw_in2 50 rfl rfl
theorem t2_51 : (Jvm.Cond.instanceMethod ({ cls := "BuildDisk$Table", name := "isFull", desc := "()Z" } : Jvm.MethodName)) ∈ lw_T := lw_in2 51 rfl rfl
theorem t2_52 : (Jvm.Cond.selects "BuildDisk$Table" ({ cls := "BuildDisk$Table", name := "isFull", desc := "()Z" } : Jvm.MethodName) ({ cls := "BuildDisk$Table", name := "isFull", desc := "()Z" } : Jvm.MethodName)) ∈ lw_T := lw_in2 52 rfl rfl
theorem t2_53 : (Jvm.Cond.code ({ cls := "BuildDisk$Table", name := "isFull", desc := "()Z" } : Jvm.MethodName) prog_5_method_6_code (1 : Nat) (Option.some Jvm.ClassFile.FieldType.boolean)) ∈ lw_T := lw_in2 53 rfl rfl
theorem t2_54 : (Jvm.Cond.methodLink "BuildDisk" (234 : Nat) ({ cls := "BuildDisk$Table", name := "append", desc := "(IIJ)I" } : Jvm.MethodName)) ∈ lw_T := lw_in2 54 rfl rfl
theorem t2_55 : (Jvm.Cond.instanceMethod ({ cls := "BuildDisk$Table", name := "append", desc := "(IIJ)I" } : Jvm.MethodName)) ∈ lw_T := lw_in2 55 rfl rfl
theorem t2_56 : (Jvm.Cond.selects "BuildDisk$Table" ({ cls := "BuildDisk$Table", name := "append", desc := "(IIJ)I" } : Jvm.MethodName) ({ cls := "BuildDisk$Table", name := "append", desc := "(IIJ)I" } : Jvm.MethodName)) ∈ lw_T := lw_in2 56 rfl rfl
theorem t2_57 : (Jvm.Cond.code ({ cls := "BuildDisk$Table", name := "append", desc := "(IIJ)I" } : Jvm.MethodName) prog_5_method_18_code (6 : Nat) (Option.some Jvm.ClassFile.FieldType.int)) ∈ lw_T := lw_in2 57 rfl rfl
theorem t2_58 : (Jvm.Cond.methodLink "BuildDisk" (131 : Nat) ({ cls := "BuildDisk", name := "writeRow", desc := "(III)V" } : Jvm.MethodName)) ∈ lw_T := lw_in2 58 rfl rfl
theorem t2_6 : (Jvm.Cond.code ({ cls := "BuildDisk$Table", name := "areKeys", desc := "([BII)Z" } : Jvm.MethodName) prog_5_method_23_code (4 : Nat) (Option.some Jvm.ClassFile.FieldType.boolean)) ∈ lw_T := lw_in2 6 rfl rfl
theorem t2_60 : (Jvm.Cond.instanceMethod ({ cls := "BuildDisk", name := "writeRow", desc := "(III)V" } : Jvm.MethodName)) ∈ lw_T := lw_in2 60 rfl rfl
theorem t2_61 : (Jvm.Cond.code ({ cls := "BuildDisk", name := "writeRow", desc := "(III)V" } : Jvm.MethodName) prog_1_method_26_code (5 : Nat) (Option.none : Option Jvm.ClassFile.FieldType)) ∈ lw_T := lw_in2 61 rfl rfl
theorem t2_62 : (Jvm.Cond.methodLink "BuildDisk" (237 : Nat) ({ cls := "BuildDisk$Disk", name := "waitAsItWillBe", desc := "(I)I" } : Jvm.MethodName)) ∈ lw_T := lw_in2 62 rfl rfl
theorem t2_63 : (Jvm.Cond.instanceMethod ({ cls := "BuildDisk$Disk", name := "waitAsItWillBe", desc := "(I)I" } : Jvm.MethodName)) ∈ lw_T := lw_in2 63 rfl rfl
theorem t2_64 : (Jvm.Cond.selects "BuildDisk$Disk" ({ cls := "BuildDisk$Disk", name := "waitAsItWillBe", desc := "(I)I" } : Jvm.MethodName) ({ cls := "BuildDisk$Disk", name := "waitAsItWillBe", desc := "(I)I" } : Jvm.MethodName)) ∈ lw_T := lw_in2 64 rfl rfl
theorem t2_65 : (Jvm.Cond.code ({ cls := "BuildDisk$Disk", name := "waitAsItWillBe", desc := "(I)I" } : Jvm.MethodName) prog_2_method_4_code (4 : Nat) (Option.some Jvm.ClassFile.FieldType.int)) ∈ lw_T := lw_in2 65 rfl rfl
theorem t2_66 : (Jvm.Cond.methodLink "BuildDisk$Disk" (38 : Nat) ({ cls := "BuildDisk$Disk", name := "latestWrite", desc := "(I)I" } : Jvm.MethodName)) ∈ lw_T := lw_in2 66 rfl rfl
theorem t2_68 : (Jvm.Cond.instanceMethod ({ cls := "BuildDisk$Disk", name := "latestWrite", desc := "(I)I" } : Jvm.MethodName)) ∈ lw_T := lw_in2 68 rfl rfl
theorem t2_69 : (Jvm.Cond.code ({ cls := "BuildDisk$Disk", name := "latestWrite", desc := "(I)I" } : Jvm.MethodName) prog_2_method_7_code (3 : Nat) (Option.some Jvm.ClassFile.FieldType.int)) ∈ lw_T := lw_in2 69 rfl rfl
theorem t2_7 : (Jvm.Cond.methodLink "BuildDisk$Table" (87 : Nat) ({ cls := "BuildDisk$Table", name := "isUser", desc := "(I)Z" } : Jvm.MethodName)) ∈ lw_T := lw_in2 7 rfl rfl
theorem t2_70 : (Jvm.Cond.methodLink "BuildDisk" (240 : Nat) ({ cls := "BuildDisk$Table", name := "write", desc := "(I[BII)V" } : Jvm.MethodName)) ∈ lw_T := lw_in2 70 rfl rfl
theorem t2_71 : (Jvm.Cond.instanceMethod ({ cls := "BuildDisk$Table", name := "write", desc := "(I[BII)V" } : Jvm.MethodName)) ∈ lw_T := lw_in2 71 rfl rfl
theorem t2_72 : (Jvm.Cond.selects "BuildDisk$Table" ({ cls := "BuildDisk$Table", name := "write", desc := "(I[BII)V" } : Jvm.MethodName) ({ cls := "BuildDisk$Table", name := "write", desc := "(I[BII)V" } : Jvm.MethodName)) ∈ lw_T := lw_in2 72 rfl rfl
theorem t2_73 : (Jvm.Cond.code ({ cls := "BuildDisk$Table", name := "write", desc := "(I[BII)V" } : Jvm.MethodName) prog_5_method_21_code (7 : Nat) (Option.none : Option Jvm.ClassFile.FieldType)) ∈ lw_T := lw_in2 73 rfl rfl
theorem t2_74 : (Jvm.Cond.methodLink "BuildDisk$Table" (67 : Nat) ({ cls := "BuildDisk$Table", name := "askAt", desc := "(II)I" } : Jvm.MethodName)) ∈ lw_T := lw_in2 74 rfl rfl
theorem t2_75 : (Jvm.Cond.instanceMethod ({ cls := "BuildDisk$Table", name := "askAt", desc := "(II)I" } : Jvm.MethodName)) ∈ lw_T := lw_in2 75 rfl rfl
theorem t2_76 : (Jvm.Cond.selects "BuildDisk$Table" ({ cls := "BuildDisk$Table", name := "askAt", desc := "(II)I" } : Jvm.MethodName) ({ cls := "BuildDisk$Table", name := "askAt", desc := "(II)I" } : Jvm.MethodName)) ∈ lw_T := lw_in2 76 rfl rfl
theorem t2_77 : (Jvm.Cond.code ({ cls := "BuildDisk$Table", name := "askAt", desc := "(II)I" } : Jvm.MethodName) prog_5_method_10_code (3 : Nat) (Option.some Jvm.ClassFile.FieldType.int)) ∈ lw_T := lw_in2 77 rfl rfl
theorem t2_78 : (Jvm.Cond.methodLink "BuildDisk$Table" (71 : Nat) ({ cls := "BuildDisk$Numbers", name := "write", desc := "([BIIJ)V" } : Jvm.MethodName)) ∈ lw_T := lw_in2 78 rfl rfl
theorem t2_79 : (Jvm.Cond.methodLink "BuildDisk$Table" (77 : Nat) ({ cls := "BuildDisk$Numbers", name := "writeSum", desc := "([BIII)V" } : Jvm.MethodName)) ∈ lw_T := lw_in2 79 rfl rfl
theorem t2_8 : (Jvm.Cond.static ({ cls := "BuildDisk$Table", name := "isUser", desc := "(I)Z" } : Jvm.MethodName)) ∈ lw_T := lw_in2 8 rfl rfl
theorem t2_80 : (Jvm.Cond.methodLink "BuildDisk" (110 : Nat) ({ cls := "BuildDisk$Unkept", name := "put", desc := "(IJ)V" } : Jvm.MethodName)) ∈ lw_T := lw_in2 80 rfl rfl
theorem t2_81 : (Jvm.Cond.instanceMethod ({ cls := "BuildDisk$Unkept", name := "put", desc := "(IJ)V" } : Jvm.MethodName)) ∈ lw_T := lw_in2 81 rfl rfl
theorem t2_82 : (Jvm.Cond.selects "BuildDisk$Unkept" ({ cls := "BuildDisk$Unkept", name := "put", desc := "(IJ)V" } : Jvm.MethodName) ({ cls := "BuildDisk$Unkept", name := "put", desc := "(IJ)V" } : Jvm.MethodName)) ∈ lw_T := lw_in2 82 rfl rfl
theorem t2_83 : (Jvm.Cond.code ({ cls := "BuildDisk$Unkept", name := "put", desc := "(IJ)V" } : Jvm.MethodName) prog_6_method_5_code (4 : Nat) (Option.none : Option Jvm.ClassFile.FieldType)) ∈ lw_T := lw_in2 83 rfl rfl
theorem t2_84 : (Jvm.Cond.methodLink "BuildDisk" (114 : Nat) ({ cls := "BuildDisk$Unkept", name := "forget", desc := "(I)V" } : Jvm.MethodName)) ∈ lw_T := lw_in2 84 rfl rfl
theorem t2_85 : (Jvm.Cond.instanceMethod ({ cls := "BuildDisk$Unkept", name := "forget", desc := "(I)V" } : Jvm.MethodName)) ∈ lw_T := lw_in2 85 rfl rfl
theorem t2_86 : (Jvm.Cond.selects "BuildDisk$Unkept" ({ cls := "BuildDisk$Unkept", name := "forget", desc := "(I)V" } : Jvm.MethodName) ({ cls := "BuildDisk$Unkept", name := "forget", desc := "(I)V" } : Jvm.MethodName)) ∈ lw_T := lw_in2 86 rfl rfl
theorem t2_87 : (Jvm.Cond.code ({ cls := "BuildDisk$Unkept", name := "forget", desc := "(I)V" } : Jvm.MethodName) prog_6_method_6_code (2 : Nat) (Option.none : Option Jvm.ClassFile.FieldType)) ∈ lw_T := lw_in2 87 rfl rfl
theorem t2_9 : (Jvm.Cond.code ({ cls := "BuildDisk$Table", name := "isUser", desc := "(I)Z" } : Jvm.MethodName) prog_5_method_3_code (1 : Nat) (Option.some Jvm.ClassFile.FieldType.boolean)) ∈ lw_T := lw_in2 9 rfl rfl
theorem t2_92 : (Jvm.Cond.methodLink "BuildDisk" (117 : Nat) ({ cls := "BuildDisk$Table", name := "kindAt", desc := "(I)I" } : Jvm.MethodName)) ∈ lw_T := lw_in2 92 rfl rfl
theorem t2_93 : (Jvm.Cond.instanceMethod ({ cls := "BuildDisk$Table", name := "kindAt", desc := "(I)I" } : Jvm.MethodName)) ∈ lw_T := lw_in2 93 rfl rfl
theorem t2_94 : (Jvm.Cond.selects "BuildDisk$Table" ({ cls := "BuildDisk$Table", name := "kindAt", desc := "(I)I" } : Jvm.MethodName) ({ cls := "BuildDisk$Table", name := "kindAt", desc := "(I)I" } : Jvm.MethodName)) ∈ lw_T := lw_in2 94 rfl rfl
theorem t2_95 : (Jvm.Cond.code ({ cls := "BuildDisk$Table", name := "kindAt", desc := "(I)I" } : Jvm.MethodName) prog_5_method_8_code (2 : Nat) (Option.some Jvm.ClassFile.FieldType.int)) ∈ lw_T := lw_in2 95 rfl rfl
theorem t2_96 : (Jvm.Cond.methodLink "BuildDisk" (121 : Nat) ({ cls := "BuildDisk$Table", name := "askCount", desc := "(I)I" } : Jvm.MethodName)) ∈ lw_T := lw_in2 96 rfl rfl
theorem t2_97 : (Jvm.Cond.instanceMethod ({ cls := "BuildDisk$Table", name := "askCount", desc := "(I)I" } : Jvm.MethodName)) ∈ lw_T := lw_in2 97 rfl rfl
theorem t2_98 : (Jvm.Cond.selects "BuildDisk$Table" ({ cls := "BuildDisk$Table", name := "askCount", desc := "(I)I" } : Jvm.MethodName) ({ cls := "BuildDisk$Table", name := "askCount", desc := "(I)I" } : Jvm.MethodName)) ∈ lw_T := lw_in2 98 rfl rfl
theorem t2_99 : (Jvm.Cond.code ({ cls := "BuildDisk$Table", name := "askCount", desc := "(I)I" } : Jvm.MethodName) prog_5_method_9_code (2 : Nat) (Option.some Jvm.ClassFile.FieldType.int)) ∈ lw_T := lw_in2 99 rfl rfl
theorem t3_102 : (Jvm.Cond.lays "BuildDiskModel" "BuildDiskModel" "thrown" "I") ∈ lw_T := lw_in3 102 rfl rfl
theorem t3_104 : (Jvm.Cond.laysFinal "BuildDiskModel" "BuildDiskModel" "sectors" "I") ∈ lw_T := lw_in3 104 rfl rfl
theorem t3_106 : (Jvm.Cond.laysFinal "BuildDiskModel" "BuildDiskModel" "each" "I") ∈ lw_T := lw_in3 106 rfl rfl
theorem t3_108 : (Jvm.Cond.laysFinal "BuildDiskModel" "BuildDiskModel" "disk" "[I") ∈ lw_T := lw_in3 108 rfl rfl
theorem t3_110 : (Jvm.Cond.laysFinal "BuildDiskModel" "BuildDiskModel" "waiting" "[I") ∈ lw_T := lw_in3 110 rfl rfl
theorem t3_112 : (Jvm.Cond.laysFinal "BuildDiskModel" "BuildDiskModel" "where" "[I") ∈ lw_T := lw_in3 112 rfl rfl
theorem t3_114 : (Jvm.Cond.lays "BuildDiskModel" "BuildDiskModel" "waits" "I") ∈ lw_T := lw_in3 114 rfl rfl
theorem t3_116 : (Jvm.Cond.laysFinal "BuildDiskModel" "BuildDiskModel" "now" "[I") ∈ lw_T := lw_in3 116 rfl rfl
theorem t3_118 : (Jvm.Cond.lays "BuildDiskModel" "BuildDiskModel" "runs" "Z") ∈ lw_T := lw_in3 118 rfl rfl
theorem t3_120 : (Jvm.Cond.lays "BuildDiskModel" "BuildDiskModel" "edition" "I") ∈ lw_T := lw_in3 120 rfl rfl
theorem t3_122 : (Jvm.Cond.lays "BuildDiskModel" "BuildDiskModel" "wanted" "I") ∈ lw_T := lw_in3 122 rfl rfl
theorem t3_124 : (Jvm.Cond.lays "BuildDiskModel" "BuildDiskModel" "sequence" "I") ∈ lw_T := lw_in3 124 rfl rfl
theorem t3_126 : (Jvm.Cond.lays "BuildDiskModel" "BuildDiskModel" "area" "I") ∈ lw_T := lw_in3 126 rfl rfl
theorem t3_128 : (Jvm.Cond.lays "BuildDiskModel" "BuildDiskModel" "end" "I") ∈ lw_T := lw_in3 128 rfl rfl
theorem t3_130 : (Jvm.Cond.lays "BuildDiskModel" "BuildDiskModel" "settled" "I") ∈ lw_T := lw_in3 130 rfl rfl
theorem t3_132 : (Jvm.Cond.lays "BuildDiskModel" "BuildDiskModel" "wrongs" "I") ∈ lw_T := lw_in3 132 rfl rfl
theorem t3_134 : (Jvm.Cond.lays "BuildDiskModel" "BuildDiskModel" "taken" "I") ∈ lw_T := lw_in3 134 rfl rfl
theorem t3_136 : (Jvm.Cond.lays "BuildDiskModel" "BuildDiskModel" "copied" "I") ∈ lw_T := lw_in3 136 rfl rfl
theorem t3_138 : (Jvm.Cond.lays "BuildDiskModel" "BuildDiskModel" "compacts" "Z") ∈ lw_T := lw_in3 138 rfl rfl
theorem t3_140 : (Jvm.Cond.laysFinal "BuildDiskModel" "BuildDiskModel" "kind" "[I") ∈ lw_T := lw_in3 140 rfl rfl
theorem t3_142 : (Jvm.Cond.laysFinal "BuildDiskModel" "BuildDiskModel" "key" "[I") ∈ lw_T := lw_in3 142 rfl rfl
theorem t3_144 : (Jvm.Cond.laysFinal "BuildDiskModel" "BuildDiskModel" "many" "[I") ∈ lw_T := lw_in3 144 rfl rfl
theorem t3_146 : (Jvm.Cond.laysFinal "BuildDiskModel" "BuildDiskModel" "asked" "[I") ∈ lw_T := lw_in3 146 rfl rfl
theorem t3_148 : (Jvm.Cond.laysFinal "BuildDiskModel" "BuildDiskModel" "digest" "[J") ∈ lw_T := lw_in3 148 rfl rfl
theorem t3_150 : (Jvm.Cond.laysFinal "BuildDiskModel" "BuildDiskModel" "unkept" "[Z") ∈ lw_T := lw_in3 150 rfl rfl
theorem t3_152 : (Jvm.Cond.laysFinal "BuildDiskModel" "BuildDiskModel" "unkeptDigest" "[J") ∈ lw_T := lw_in3 152 rfl rfl
theorem iX0 : ∀ w ∈ u_ws RX0 TX0 5, w ∈ lw_T := by
  intro w hw
  obtain ⟨k, hk, rfl⟩ := List.mem_map.mp hw
  have hk : k < 5 := List.mem_range.mp hk
  match k, hk with
  | 0, _ => exact t1_44
  | 1, _ => exact t1_46
  | 2, _ => exact t1_48
  | 3, _ => exact t1_50
  | 4, _ => exact t1_52
  | k + 5, h => exact absurd h (by omega)
theorem iX3 : ∀ w ∈ u_ws RX3 TX3 10, w ∈ lw_T := by
  intro w hw
  obtain ⟨k, hk, rfl⟩ := List.mem_map.mp hw
  have hk : k < 10 := List.mem_range.mp hk
  match k, hk with
  | 0, _ => exact t1_73
  | 1, _ => exact t1_75
  | 2, _ => exact t1_77
  | 3, _ => exact t1_79
  | 4, _ => exact t1_81
  | 5, _ => exact t1_83
  | 6, _ => exact t1_85
  | 7, _ => exact t1_87
  | 8, _ => exact t1_89
  | 9, _ => exact t1_91
  | k + 10, h => exact absurd h (by omega)
theorem iX4 : ∀ w ∈ u_ws RX4 TX4 2, w ∈ lw_T := by
  intro w hw
  obtain ⟨k, hk, rfl⟩ := List.mem_map.mp hw
  have hk : k < 2 := List.mem_range.mp hk
  match k, hk with
  | 0, _ => exact t1_103
  | 1, _ => exact t1_105
  | k + 2, h => exact absurd h (by omega)
theorem iX5 : ∀ w ∈ u_ws RX5 TX5 14, w ∈ lw_T := by
  intro w hw
  obtain ⟨k, hk, rfl⟩ := List.mem_map.mp hw
  have hk : k < 14 := List.mem_range.mp hk
  match k, hk with
  | 0, _ => exact t1_123
  | 1, _ => exact t1_125
  | 2, _ => exact t1_127
  | 3, _ => exact t1_129
  | 4, _ => exact t1_131
  | 5, _ => exact t1_133
  | 6, _ => exact t1_135
  | 7, _ => exact t1_137
  | 8, _ => exact t1_139
  | 9, _ => exact t1_141
  | 10, _ => exact t1_143
  | 11, _ => exact t1_145
  | 12, _ => exact t1_147
  | 13, _ => exact t1_149
  | k + 14, h => exact absurd h (by omega)
theorem iX6 : ∀ w ∈ u_ws RX6 TX6 26, w ∈ lw_T := by
  intro w hw
  obtain ⟨k, hk, rfl⟩ := List.mem_map.mp hw
  have hk : k < 26 := List.mem_range.mp hk
  match k, hk with
  | 0, _ => exact t3_102
  | 1, _ => exact t3_104
  | 2, _ => exact t3_106
  | 3, _ => exact t3_108
  | 4, _ => exact t3_110
  | 5, _ => exact t3_112
  | 6, _ => exact t3_114
  | 7, _ => exact t3_116
  | 8, _ => exact t3_118
  | 9, _ => exact t3_120
  | 10, _ => exact t3_122
  | 11, _ => exact t3_124
  | 12, _ => exact t3_126
  | 13, _ => exact t3_128
  | 14, _ => exact t3_130
  | 15, _ => exact t3_132
  | 16, _ => exact t3_134
  | 17, _ => exact t3_136
  | 18, _ => exact t3_138
  | 19, _ => exact t3_140
  | 20, _ => exact t3_142
  | 21, _ => exact t3_144
  | 22, _ => exact t3_146
  | 23, _ => exact t3_148
  | 24, _ => exact t3_150
  | 25, _ => exact t3_152
  | k + 26, h => exact absurd h (by omega)
theorem ndJ9_floorMod_7cf53 : yJ9_floorMod_7cf53.cls ≠ "java/lang/invoke/MethodHandle" ∧ yJ9_floorMod_7cf53.cls ≠ "java/lang/invoke/VarHandle" ∧ (parseMethodDescriptor yJ9_floorMod_7cf53.desc).map (fun d => d.parameters.length) = some 2 := by decide +kernel
theorem ndX0_addTarget : yX0_addTarget.cls ≠ "java/lang/invoke/MethodHandle" ∧ yX0_addTarget.cls ≠ "java/lang/invoke/VarHandle" ∧ (parseMethodDescriptor yX0_addTarget.desc).map (fun d => d.parameters.length) = some 1 := by decide +kernel
theorem ndX0_bring : yX0_bring.cls ≠ "java/lang/invoke/MethodHandle" ∧ yX0_bring.cls ≠ "java/lang/invoke/VarHandle" ∧ (parseMethodDescriptor yX0_bring.desc).map (fun d => d.parameters.length) = some 2 := by decide +kernel
theorem ndX0_latestWrite : yX0_latestWrite.cls ≠ "java/lang/invoke/MethodHandle" ∧ yX0_latestWrite.cls ≠ "java/lang/invoke/VarHandle" ∧ (parseMethodDescriptor yX0_latestWrite.desc).map (fun d => d.parameters.length) = some 1 := by decide +kernel
theorem ndX0_waitAsItWillBe : yX0_waitAsItWillBe.cls ≠ "java/lang/invoke/MethodHandle" ∧ yX0_waitAsItWillBe.cls ≠ "java/lang/invoke/VarHandle" ∧ (parseMethodDescriptor yX0_waitAsItWillBe.desc).map (fun d => d.parameters.length) = some 1 := by decide +kernel
theorem ndX0_waitWithZeros : yX0_waitWithZeros.cls ≠ "java/lang/invoke/MethodHandle" ∧ yX0_waitWithZeros.cls ≠ "java/lang/invoke/VarHandle" ∧ (parseMethodDescriptor yX0_waitWithZeros.desc).map (fun d => d.parameters.length) = some 1 := by decide +kernel
theorem ndX0_waiting : yX0_waiting.cls ≠ "java/lang/invoke/MethodHandle" ∧ yX0_waiting.cls ≠ "java/lang/invoke/VarHandle" ∧ (parseMethodDescriptor yX0_waiting.desc).map (fun d => d.parameters.length) = some 0 := by decide +kernel
theorem ndX1_areaAt : yX1_areaAt.cls ≠ "java/lang/invoke/MethodHandle" ∧ yX1_areaAt.cls ≠ "java/lang/invoke/VarHandle" ∧ (parseMethodDescriptor yX1_areaAt.desc).map (fun d => d.parameters.length) = some 2 := by decide +kernel
theorem ndX1_counting : yX1_counting.cls ≠ "java/lang/invoke/MethodHandle" ∧ yX1_counting.cls ≠ "java/lang/invoke/VarHandle" ∧ (parseMethodDescriptor yX1_counting.desc).map (fun d => d.parameters.length) = some 1 := by decide +kernel
theorem ndX1_editionAt : yX1_editionAt.cls ≠ "java/lang/invoke/MethodHandle" ∧ yX1_editionAt.cls ≠ "java/lang/invoke/VarHandle" ∧ (parseMethodDescriptor yX1_editionAt.desc).map (fun d => d.parameters.length) = some 2 := by decide +kernel
theorem ndX1_isGood : yX1_isGood.cls ≠ "java/lang/invoke/MethodHandle" ∧ yX1_isGood.cls ≠ "java/lang/invoke/VarHandle" ∧ (parseMethodDescriptor yX1_isGood.desc).map (fun d => d.parameters.length) = some 2 := by decide +kernel
theorem ndX1_sequenceAt : yX1_sequenceAt.cls ≠ "java/lang/invoke/MethodHandle" ∧ yX1_sequenceAt.cls ≠ "java/lang/invoke/VarHandle" ∧ (parseMethodDescriptor yX1_sequenceAt.desc).map (fun d => d.parameters.length) = some 2 := by decide +kernel
theorem ndX1_write : yX1_write.cls ≠ "java/lang/invoke/MethodHandle" ∧ yX1_write.cls ≠ "java/lang/invoke/VarHandle" ∧ (parseMethodDescriptor yX1_write.desc).map (fun d => d.parameters.length) = some 5 := by decide +kernel
theorem ndX2_hasSum : yX2_hasSum.cls ≠ "java/lang/invoke/MethodHandle" ∧ yX2_hasSum.cls ≠ "java/lang/invoke/VarHandle" ∧ (parseMethodDescriptor yX2_hasSum.desc).map (fun d => d.parameters.length) = some 4 := by decide +kernel
theorem ndX2_read : yX2_read.cls ≠ "java/lang/invoke/MethodHandle" ∧ yX2_read.cls ≠ "java/lang/invoke/VarHandle" ∧ (parseMethodDescriptor yX2_read.desc).map (fun d => d.parameters.length) = some 3 := by decide +kernel
theorem ndX2_sum : yX2_sum.cls ≠ "java/lang/invoke/MethodHandle" ∧ yX2_sum.cls ≠ "java/lang/invoke/VarHandle" ∧ (parseMethodDescriptor yX2_sum.desc).map (fun d => d.parameters.length) = some 4 := by decide +kernel
theorem ndX2_write : yX2_write.cls ≠ "java/lang/invoke/MethodHandle" ∧ yX2_write.cls ≠ "java/lang/invoke/VarHandle" ∧ (parseMethodDescriptor yX2_write.desc).map (fun d => d.parameters.length) = some 4 := by decide +kernel
theorem ndX2_writeSum : yX2_writeSum.cls ≠ "java/lang/invoke/MethodHandle" ∧ yX2_writeSum.cls ≠ "java/lang/invoke/VarHandle" ∧ (parseMethodDescriptor yX2_writeSum.desc).map (fun d => d.parameters.length) = some 4 := by decide +kernel
theorem ndX3_addAsk : yX3_addAsk.cls ≠ "java/lang/invoke/MethodHandle" ∧ yX3_addAsk.cls ≠ "java/lang/invoke/VarHandle" ∧ (parseMethodDescriptor yX3_addAsk.desc).map (fun d => d.parameters.length) = some 2 := by decide +kernel
theorem ndX3_append : yX3_append.cls ≠ "java/lang/invoke/MethodHandle" ∧ yX3_append.cls ≠ "java/lang/invoke/VarHandle" ∧ (parseMethodDescriptor yX3_append.desc).map (fun d => d.parameters.length) = some 3 := by decide +kernel
theorem ndX3_areKeys : yX3_areKeys.cls ≠ "java/lang/invoke/MethodHandle" ∧ yX3_areKeys.cls ≠ "java/lang/invoke/VarHandle" ∧ (parseMethodDescriptor yX3_areKeys.desc).map (fun d => d.parameters.length) = some 3 := by decide +kernel
theorem ndX3_askAt : yX3_askAt.cls ≠ "java/lang/invoke/MethodHandle" ∧ yX3_askAt.cls ≠ "java/lang/invoke/VarHandle" ∧ (parseMethodDescriptor yX3_askAt.desc).map (fun d => d.parameters.length) = some 2 := by decide +kernel
theorem ndX3_askCount : yX3_askCount.cls ≠ "java/lang/invoke/MethodHandle" ∧ yX3_askCount.cls ≠ "java/lang/invoke/VarHandle" ∧ (parseMethodDescriptor yX3_askCount.desc).map (fun d => d.parameters.length) = some 1 := by decide +kernel
theorem ndX3_clear : yX3_clear.cls ≠ "java/lang/invoke/MethodHandle" ∧ yX3_clear.cls ≠ "java/lang/invoke/VarHandle" ∧ (parseMethodDescriptor yX3_clear.desc).map (fun d => d.parameters.length) = some 0 := by decide +kernel
theorem ndX3_digestAt : yX3_digestAt.cls ≠ "java/lang/invoke/MethodHandle" ∧ yX3_digestAt.cls ≠ "java/lang/invoke/VarHandle" ∧ (parseMethodDescriptor yX3_digestAt.desc).map (fun d => d.parameters.length) = some 1 := by decide +kernel
theorem ndX3_end : yX3_end.cls ≠ "java/lang/invoke/MethodHandle" ∧ yX3_end.cls ≠ "java/lang/invoke/VarHandle" ∧ (parseMethodDescriptor yX3_end.desc).map (fun d => d.parameters.length) = some 0 := by decide +kernel
theorem ndX3_index : yX3_index.cls ≠ "java/lang/invoke/MethodHandle" ∧ yX3_index.cls ≠ "java/lang/invoke/VarHandle" ∧ (parseMethodDescriptor yX3_index.desc).map (fun d => d.parameters.length) = some 0 := by decide +kernel
theorem ndX3_indexPlace : yX3_indexPlace.cls ≠ "java/lang/invoke/MethodHandle" ∧ yX3_indexPlace.cls ≠ "java/lang/invoke/VarHandle" ∧ (parseMethodDescriptor yX3_indexPlace.desc).map (fun d => d.parameters.length) = some 1 := by decide +kernel
theorem ndX3_isFull : yX3_isFull.cls ≠ "java/lang/invoke/MethodHandle" ∧ yX3_isFull.cls ≠ "java/lang/invoke/VarHandle" ∧ (parseMethodDescriptor yX3_isFull.desc).map (fun d => d.parameters.length) = some 0 := by decide +kernel
theorem ndX3_isKey : yX3_isKey.cls ≠ "java/lang/invoke/MethodHandle" ∧ yX3_isKey.cls ≠ "java/lang/invoke/VarHandle" ∧ (parseMethodDescriptor yX3_isKey.desc).map (fun d => d.parameters.length) = some 1 := by decide +kernel
theorem ndX3_isRow : yX3_isRow.cls ≠ "java/lang/invoke/MethodHandle" ∧ yX3_isRow.cls ≠ "java/lang/invoke/VarHandle" ∧ (parseMethodDescriptor yX3_isRow.desc).map (fun d => d.parameters.length) = some 3 := by decide +kernel
theorem ndX3_isToCopy : yX3_isToCopy.cls ≠ "java/lang/invoke/MethodHandle" ∧ yX3_isToCopy.cls ≠ "java/lang/invoke/VarHandle" ∧ (parseMethodDescriptor yX3_isToCopy.desc).map (fun d => d.parameters.length) = some 1 := by decide +kernel
theorem ndX3_isUser : yX3_isUser.cls ≠ "java/lang/invoke/MethodHandle" ∧ yX3_isUser.cls ≠ "java/lang/invoke/VarHandle" ∧ (parseMethodDescriptor yX3_isUser.desc).map (fun d => d.parameters.length) = some 1 := by decide +kernel
theorem ndX3_isWrongBehind : yX3_isWrongBehind.cls ≠ "java/lang/invoke/MethodHandle" ∧ yX3_isWrongBehind.cls ≠ "java/lang/invoke/VarHandle" ∧ (parseMethodDescriptor yX3_isWrongBehind.desc).map (fun d => d.parameters.length) = some 1 := by decide +kernel
theorem ndX3_keepOnly : yX3_keepOnly.cls ≠ "java/lang/invoke/MethodHandle" ∧ yX3_keepOnly.cls ≠ "java/lang/invoke/VarHandle" ∧ (parseMethodDescriptor yX3_keepOnly.desc).map (fun d => d.parameters.length) = some 2 := by decide +kernel
theorem ndX3_kindAt : yX3_kindAt.cls ≠ "java/lang/invoke/MethodHandle" ∧ yX3_kindAt.cls ≠ "java/lang/invoke/VarHandle" ∧ (parseMethodDescriptor yX3_kindAt.desc).map (fun d => d.parameters.length) = some 1 := by decide +kernel
theorem ndX3_latest : yX3_latest.cls ≠ "java/lang/invoke/MethodHandle" ∧ yX3_latest.cls ≠ "java/lang/invoke/VarHandle" ∧ (parseMethodDescriptor yX3_latest.desc).map (fun d => d.parameters.length) = some 1 := by decide +kernel
theorem ndX3_lockHolder : yX3_lockHolder.cls ≠ "java/lang/invoke/MethodHandle" ∧ yX3_lockHolder.cls ≠ "java/lang/invoke/VarHandle" ∧ (parseMethodDescriptor yX3_lockHolder.desc).map (fun d => d.parameters.length) = some 0 := by decide +kernel
theorem ndX3_move : yX3_move.cls ≠ "java/lang/invoke/MethodHandle" ∧ yX3_move.cls ≠ "java/lang/invoke/VarHandle" ∧ (parseMethodDescriptor yX3_move.desc).map (fun d => d.parameters.length) = some 2 := by decide +kernel
theorem ndX3_places : yX3_places.cls ≠ "java/lang/invoke/MethodHandle" ∧ yX3_places.cls ≠ "java/lang/invoke/VarHandle" ∧ (parseMethodDescriptor yX3_places.desc).map (fun d => d.parameters.length) = some 0 := by decide +kernel
theorem ndX3_read : yX3_read.cls ≠ "java/lang/invoke/MethodHandle" ∧ yX3_read.cls ≠ "java/lang/invoke/VarHandle" ∧ (parseMethodDescriptor yX3_read.desc).map (fun d => d.parameters.length) = some 2 := by decide +kernel
theorem ndX3_readRow : yX3_readRow.cls ≠ "java/lang/invoke/MethodHandle" ∧ yX3_readRow.cls ≠ "java/lang/invoke/VarHandle" ∧ (parseMethodDescriptor yX3_readRow.desc).map (fun d => d.parameters.length) = some 3 := by decide +kernel
theorem ndX3_write : yX3_write.cls ≠ "java/lang/invoke/MethodHandle" ∧ yX3_write.cls ≠ "java/lang/invoke/VarHandle" ∧ (parseMethodDescriptor yX3_write.desc).map (fun d => d.parameters.length) = some 4 := by decide +kernel
theorem ndX3_wrongCount : yX3_wrongCount.cls ≠ "java/lang/invoke/MethodHandle" ∧ yX3_wrongCount.cls ≠ "java/lang/invoke/VarHandle" ∧ (parseMethodDescriptor yX3_wrongCount.desc).map (fun d => d.parameters.length) = some 0 := by decide +kernel
theorem ndX4_count : yX4_count.cls ≠ "java/lang/invoke/MethodHandle" ∧ yX4_count.cls ≠ "java/lang/invoke/VarHandle" ∧ (parseMethodDescriptor yX4_count.desc).map (fun d => d.parameters.length) = some 0 := by decide +kernel
theorem ndX4_digestOf : yX4_digestOf.cls ≠ "java/lang/invoke/MethodHandle" ∧ yX4_digestOf.cls ≠ "java/lang/invoke/VarHandle" ∧ (parseMethodDescriptor yX4_digestOf.desc).map (fun d => d.parameters.length) = some 1 := by decide +kernel
theorem ndX4_forget : yX4_forget.cls ≠ "java/lang/invoke/MethodHandle" ∧ yX4_forget.cls ≠ "java/lang/invoke/VarHandle" ∧ (parseMethodDescriptor yX4_forget.desc).map (fun d => d.parameters.length) = some 1 := by decide +kernel
theorem ndX4_forgetAll : yX4_forgetAll.cls ≠ "java/lang/invoke/MethodHandle" ∧ yX4_forgetAll.cls ≠ "java/lang/invoke/VarHandle" ∧ (parseMethodDescriptor yX4_forgetAll.desc).map (fun d => d.parameters.length) = some 0 := by decide +kernel
theorem ndX4_has : yX4_has.cls ≠ "java/lang/invoke/MethodHandle" ∧ yX4_has.cls ≠ "java/lang/invoke/VarHandle" ∧ (parseMethodDescriptor yX4_has.desc).map (fun d => d.parameters.length) = some 1 := by decide +kernel
theorem ndX4_put : yX4_put.cls ≠ "java/lang/invoke/MethodHandle" ∧ yX4_put.cls ≠ "java/lang/invoke/VarHandle" ∧ (parseMethodDescriptor yX4_put.desc).map (fun d => d.parameters.length) = some 2 := by decide +kernel
theorem ndX5_aboutRunning : yX5_aboutRunning.cls ≠ "java/lang/invoke/MethodHandle" ∧ yX5_aboutRunning.cls ≠ "java/lang/invoke/VarHandle" ∧ (parseMethodDescriptor yX5_aboutRunning.desc).map (fun d => d.parameters.length) = some 1 := by decide +kernel
theorem ndX5_allAskedAhead : yX5_allAskedAhead.cls ≠ "java/lang/invoke/MethodHandle" ∧ yX5_allAskedAhead.cls ≠ "java/lang/invoke/VarHandle" ∧ (parseMethodDescriptor yX5_allAskedAhead.desc).map (fun d => d.parameters.length) = some 1 := by decide +kernel
theorem ndX5_beginBy : yX5_beginBy.cls ≠ "java/lang/invoke/MethodHandle" ∧ yX5_beginBy.cls ≠ "java/lang/invoke/VarHandle" ∧ (parseMethodDescriptor yX5_beginBy.desc).map (fun d => d.parameters.length) = some 1 := by decide +kernel
theorem ndX5_beginEmpty : yX5_beginEmpty.cls ≠ "java/lang/invoke/MethodHandle" ∧ yX5_beginEmpty.cls ≠ "java/lang/invoke/VarHandle" ∧ (parseMethodDescriptor yX5_beginEmpty.desc).map (fun d => d.parameters.length) = some 0 := by decide +kernel
theorem ndX5_changeHeads : yX5_changeHeads.cls ≠ "java/lang/invoke/MethodHandle" ∧ yX5_changeHeads.cls ≠ "java/lang/invoke/VarHandle" ∧ (parseMethodDescriptor yX5_changeHeads.desc).map (fun d => d.parameters.length) = some 0 := by decide +kernel
theorem ndX5_clearArea : yX5_clearArea.cls ≠ "java/lang/invoke/MethodHandle" ∧ yX5_clearArea.cls ≠ "java/lang/invoke/VarHandle" ∧ (parseMethodDescriptor yX5_clearArea.desc).map (fun d => d.parameters.length) = some 1 := by decide +kernel
theorem ndX5_doStep : yX5_doStep.cls ≠ "java/lang/invoke/MethodHandle" ∧ yX5_doStep.cls ≠ "java/lang/invoke/VarHandle" ∧ (parseMethodDescriptor yX5_doStep.desc).map (fun d => d.parameters.length) = some 0 := by decide +kernel
theorem ndX5_endCompaction : yX5_endCompaction.cls ≠ "java/lang/invoke/MethodHandle" ∧ yX5_endCompaction.cls ≠ "java/lang/invoke/VarHandle" ∧ (parseMethodDescriptor yX5_endCompaction.desc).map (fun d => d.parameters.length) = some 0 := by decide +kernel
theorem ndX5_firstSector : yX5_firstSector.cls ≠ "java/lang/invoke/MethodHandle" ∧ yX5_firstSector.cls ≠ "java/lang/invoke/VarHandle" ∧ (parseMethodDescriptor yX5_firstSector.desc).map (fun d => d.parameters.length) = some 1 := by decide +kernel
theorem ndX5_fitsEdition : yX5_fitsEdition.cls ≠ "java/lang/invoke/MethodHandle" ∧ yX5_fitsEdition.cls ≠ "java/lang/invoke/VarHandle" ∧ (parseMethodDescriptor yX5_fitsEdition.desc).map (fun d => d.parameters.length) = some 1 := by decide +kernel
theorem ndX5_keep : yX5_keep.cls ≠ "java/lang/invoke/MethodHandle" ∧ yX5_keep.cls ≠ "java/lang/invoke/VarHandle" ∧ (parseMethodDescriptor yX5_keep.desc).map (fun d => d.parameters.length) = some 3 := by decide +kernel
theorem ndX5_takePlace : yX5_takePlace.cls ≠ "java/lang/invoke/MethodHandle" ∧ yX5_takePlace.cls ≠ "java/lang/invoke/VarHandle" ∧ (parseMethodDescriptor yX5_takePlace.desc).map (fun d => d.parameters.length) = some 1 := by decide +kernel
theorem ndX5_writeRow : yX5_writeRow.cls ≠ "java/lang/invoke/MethodHandle" ∧ yX5_writeRow.cls ≠ "java/lang/invoke/VarHandle" ∧ (parseMethodDescriptor yX5_writeRow.desc).map (fun d => d.parameters.length) = some 3 := by decide +kernel
end
section
theorem dX2_read_0 : decode cX2_read 0 = .ok (.lconst 0, 1) := by decide +kernel
theorem dX2_read_1 : decode cX2_read 1 = .ok (.lstore_n 3, 1) := by decide +kernel
theorem dX2_read_2 : decode cX2_read 2 = .ok (.iconst 0, 1) := by decide +kernel
theorem dX2_read_3 : decode cX2_read 3 = .ok (.istore 5, 2) := by decide +kernel
theorem dX2_read_5 : decode cX2_read 5 = .ok (.iload 5, 2) := by decide +kernel
theorem dX2_read_7 : decode cX2_read 7 = .ok (.iload_n 2, 1) := by decide +kernel
theorem dX2_read_8 : decode cX2_read 8 = .ok (.if_icmp .ge 26, 3) := by decide +kernel
theorem dX2_read_11 : decode cX2_read 11 = .ok (.lload_n 3, 1) := by decide +kernel
theorem dX2_read_12 : decode cX2_read 12 = .ok (.bipush 8, 2) := by decide +kernel
theorem dX2_read_14 : decode cX2_read 14 = .ok (.lshl, 1) := by decide +kernel
theorem dX2_read_15 : decode cX2_read 15 = .ok (.aload_n 0, 1) := by decide +kernel
theorem dX2_read_16 : decode cX2_read 16 = .ok (.iload_n 1, 1) := by decide +kernel
theorem dX2_read_17 : decode cX2_read 17 = .ok (.iload 5, 2) := by decide +kernel
theorem dX2_read_19 : decode cX2_read 19 = .ok (.iadd, 1) := by decide +kernel
theorem dX2_read_20 : decode cX2_read 20 = .ok (.baload, 1) := by decide +kernel
theorem dX2_read_21 : decode cX2_read 21 = .ok (.sipush 255, 3) := by decide +kernel
theorem dX2_read_24 : decode cX2_read 24 = .ok (.iand, 1) := by decide +kernel
theorem dX2_read_25 : decode cX2_read 25 = .ok (.i2l, 1) := by decide +kernel
theorem dX2_read_26 : decode cX2_read 26 = .ok (.lor, 1) := by decide +kernel
theorem dX2_read_27 : decode cX2_read 27 = .ok (.lstore_n 3, 1) := by decide +kernel
theorem dX2_read_28 : decode cX2_read 28 = .ok (.iinc 5 1, 3) := by decide +kernel
theorem dX2_read_31 : decode cX2_read 31 = .ok (.goto (-26), 3) := by decide +kernel
theorem dX2_read_34 : decode cX2_read 34 = .ok (.lload_n 3, 1) := by decide +kernel
theorem dX2_read_35 : decode cX2_read 35 = .ok (.lreturn, 1) := by decide +kernel
theorem dX2_sum_0 : decode cX2_sum 0 = .ok (.iload_n 3, 1) := by decide +kernel
theorem dX2_sum_1 : decode cX2_sum 1 = .ok (.iconst 1, 1) := by decide +kernel
theorem dX2_sum_2 : decode cX2_sum 2 = .ok (.iadd, 1) := by decide +kernel
theorem dX2_sum_3 : decode cX2_sum 3 = .ok (.istore 4, 2) := by decide +kernel
theorem dX2_sum_5 : decode cX2_sum 5 = .ok (.iconst 0, 1) := by decide +kernel
theorem dX2_sum_6 : decode cX2_sum 6 = .ok (.istore 5, 2) := by decide +kernel
theorem dX2_sum_8 : decode cX2_sum 8 = .ok (.iload 5, 2) := by decide +kernel
theorem dX2_sum_10 : decode cX2_sum 10 = .ok (.iload_n 2, 1) := by decide +kernel
theorem dX2_sum_11 : decode cX2_sum 11 = .ok (.if_icmp .ge 39, 3) := by decide +kernel
theorem dX2_sum_14 : decode cX2_sum 14 = .ok (.iload 4, 2) := by decide +kernel
theorem dX2_sum_16 : decode cX2_sum 16 = .ok (.aload_n 0, 1) := by decide +kernel
theorem dX2_sum_17 : decode cX2_sum 17 = .ok (.iload_n 1, 1) := by decide +kernel
theorem dX2_sum_18 : decode cX2_sum 18 = .ok (.iload 5, 2) := by decide +kernel
theorem dX2_sum_20 : decode cX2_sum 20 = .ok (.iadd, 1) := by decide +kernel
theorem dX2_sum_21 : decode cX2_sum 21 = .ok (.baload, 1) := by decide +kernel
theorem dX2_sum_22 : decode cX2_sum 22 = .ok (.sipush 255, 3) := by decide +kernel
theorem dX2_sum_25 : decode cX2_sum 25 = .ok (.iand, 1) := by decide +kernel
theorem dX2_sum_26 : decode cX2_sum 26 = .ok (.ixor, 1) := by decide +kernel
theorem dX2_sum_27 : decode cX2_sum 27 = .ok (.istore 6, 2) := by decide +kernel
theorem dX2_sum_29 : decode cX2_sum 29 = .ok (.iload 6, 2) := by decide +kernel
theorem dX2_sum_31 : decode cX2_sum 31 = .ok (.iconst 5, 1) := by decide +kernel
theorem dX2_sum_32 : decode cX2_sum 32 = .ok (.ishl, 1) := by decide +kernel
theorem dX2_sum_33 : decode cX2_sum 33 = .ok (.iload 6, 2) := by decide +kernel
theorem dX2_sum_35 : decode cX2_sum 35 = .ok (.bipush 27, 2) := by decide +kernel
theorem dX2_sum_37 : decode cX2_sum 37 = .ok (.iushr, 1) := by decide +kernel
theorem dX2_sum_38 : decode cX2_sum 38 = .ok (.ior, 1) := by decide +kernel
theorem dX2_sum_39 : decode cX2_sum 39 = .ok (.ldc 9, 2) := by decide +kernel
theorem dX2_sum_41 : decode cX2_sum 41 = .ok (.imul, 1) := by decide +kernel
theorem dX2_sum_42 : decode cX2_sum 42 = .ok (.istore 4, 2) := by decide +kernel
theorem dX2_sum_44 : decode cX2_sum 44 = .ok (.iinc 5 1, 3) := by decide +kernel
theorem dX2_sum_47 : decode cX2_sum 47 = .ok (.goto (-39), 3) := by decide +kernel
theorem dX2_sum_50 : decode cX2_sum 50 = .ok (.iload 4, 2) := by decide +kernel
theorem dX2_sum_52 : decode cX2_sum 52 = .ok (.ireturn, 1) := by decide +kernel
theorem dX2_hasSum_0 : decode cX2_hasSum 0 = .ok (.aload_n 0, 1) := by decide +kernel
theorem dX2_hasSum_1 : decode cX2_hasSum 1 = .ok (.iload_n 1, 1) := by decide +kernel
theorem dX2_hasSum_2 : decode cX2_hasSum 2 = .ok (.iload_n 2, 1) := by decide +kernel
theorem dX2_hasSum_3 : decode cX2_hasSum 3 = .ok (.iadd, 1) := by decide +kernel
theorem dX2_hasSum_4 : decode cX2_hasSum 4 = .ok (.iconst 4, 1) := by decide +kernel
theorem dX2_hasSum_5 : decode cX2_hasSum 5 = .ok (.invokestatic 10, 3) := by decide +kernel
theorem dX2_hasSum_8 : decode cX2_hasSum 8 = .ok (.l2i, 1) := by decide +kernel
theorem dX2_hasSum_9 : decode cX2_hasSum 9 = .ok (.aload_n 0, 1) := by decide +kernel
theorem dX2_hasSum_10 : decode cX2_hasSum 10 = .ok (.iload_n 1, 1) := by decide +kernel
theorem dX2_hasSum_11 : decode cX2_hasSum 11 = .ok (.iload_n 2, 1) := by decide +kernel
theorem dX2_hasSum_12 : decode cX2_hasSum 12 = .ok (.iload_n 3, 1) := by decide +kernel
theorem dX2_hasSum_13 : decode cX2_hasSum 13 = .ok (.invokestatic 14, 3) := by decide +kernel
theorem dX2_hasSum_16 : decode cX2_hasSum 16 = .ok (.if_icmp .ne 7, 3) := by decide +kernel
theorem dX2_hasSum_19 : decode cX2_hasSum 19 = .ok (.iconst 1, 1) := by decide +kernel
theorem dX2_hasSum_20 : decode cX2_hasSum 20 = .ok (.goto 4, 3) := by decide +kernel
theorem dX2_hasSum_23 : decode cX2_hasSum 23 = .ok (.iconst 0, 1) := by decide +kernel
theorem dX2_hasSum_24 : decode cX2_hasSum 24 = .ok (.ireturn, 1) := by decide +kernel
theorem dX2_write_0 : decode cX2_write 0 = .ok (.iconst 0, 1) := by decide +kernel
theorem dX2_write_1 : decode cX2_write 1 = .ok (.istore 5, 2) := by decide +kernel
theorem dX2_write_3 : decode cX2_write 3 = .ok (.iload 5, 2) := by decide +kernel
theorem dX2_write_5 : decode cX2_write 5 = .ok (.iload_n 2, 1) := by decide +kernel
theorem dX2_write_6 : decode cX2_write 6 = .ok (.if_icmp .ge 28, 3) := by decide +kernel
theorem dX2_write_9 : decode cX2_write 9 = .ok (.aload_n 0, 1) := by decide +kernel
theorem dX2_write_10 : decode cX2_write 10 = .ok (.iload_n 1, 1) := by decide +kernel
theorem dX2_write_11 : decode cX2_write 11 = .ok (.iload 5, 2) := by decide +kernel
theorem dX2_write_13 : decode cX2_write 13 = .ok (.iadd, 1) := by decide +kernel
theorem dX2_write_14 : decode cX2_write 14 = .ok (.lload_n 3, 1) := by decide +kernel
theorem dX2_write_15 : decode cX2_write 15 = .ok (.bipush 8, 2) := by decide +kernel
theorem dX2_write_17 : decode cX2_write 17 = .ok (.iload_n 2, 1) := by decide +kernel
theorem dX2_write_18 : decode cX2_write 18 = .ok (.iconst 1, 1) := by decide +kernel
theorem dX2_write_19 : decode cX2_write 19 = .ok (.isub, 1) := by decide +kernel
theorem dX2_write_20 : decode cX2_write 20 = .ok (.iload 5, 2) := by decide +kernel
theorem dX2_write_22 : decode cX2_write 22 = .ok (.isub, 1) := by decide +kernel
theorem dX2_write_23 : decode cX2_write 23 = .ok (.imul, 1) := by decide +kernel
theorem dX2_write_24 : decode cX2_write 24 = .ok (.lushr, 1) := by decide +kernel
theorem dX2_write_25 : decode cX2_write 25 = .ok (.l2i, 1) := by decide +kernel
theorem dX2_write_26 : decode cX2_write 26 = .ok (.i2b, 1) := by decide +kernel
theorem dX2_write_27 : decode cX2_write 27 = .ok (.bastore, 1) := by decide +kernel
theorem dX2_write_28 : decode cX2_write 28 = .ok (.iinc 5 1, 3) := by decide +kernel
theorem dX2_write_31 : decode cX2_write 31 = .ok (.goto (-28), 3) := by decide +kernel
theorem dX2_write_34 : decode cX2_write 34 = .ok (.return_, 1) := by decide +kernel
theorem dX2_writeSum_0 : decode cX2_writeSum 0 = .ok (.aload_n 0, 1) := by decide +kernel
theorem dX2_writeSum_1 : decode cX2_writeSum 1 = .ok (.iload_n 1, 1) := by decide +kernel
theorem dX2_writeSum_2 : decode cX2_writeSum 2 = .ok (.iload_n 2, 1) := by decide +kernel
theorem dX2_writeSum_3 : decode cX2_writeSum 3 = .ok (.iadd, 1) := by decide +kernel
theorem dX2_writeSum_4 : decode cX2_writeSum 4 = .ok (.iconst 4, 1) := by decide +kernel
theorem dX2_writeSum_5 : decode cX2_writeSum 5 = .ok (.aload_n 0, 1) := by decide +kernel
theorem dX2_writeSum_6 : decode cX2_writeSum 6 = .ok (.iload_n 1, 1) := by decide +kernel
theorem dX2_writeSum_7 : decode cX2_writeSum 7 = .ok (.iload_n 2, 1) := by decide +kernel
theorem dX2_writeSum_8 : decode cX2_writeSum 8 = .ok (.iload_n 3, 1) := by decide +kernel
theorem dX2_writeSum_9 : decode cX2_writeSum 9 = .ok (.invokestatic 14, 3) := by decide +kernel
theorem dX2_writeSum_12 : decode cX2_writeSum 12 = .ok (.i2l, 1) := by decide +kernel
theorem dX2_writeSum_13 : decode cX2_writeSum 13 = .ok (.invokestatic 18, 3) := by decide +kernel
theorem dX2_writeSum_16 : decode cX2_writeSum 16 = .ok (.return_, 1) := by decide +kernel
theorem dX1_areaAt_0 : decode cX1_areaAt 0 = .ok (.aload_n 0, 1) := by decide +kernel
theorem dX1_areaAt_1 : decode cX1_areaAt 1 = .ok (.iload_n 1, 1) := by decide +kernel
theorem dX1_areaAt_2 : decode cX1_areaAt 2 = .ok (.sipush 512, 3) := by decide +kernel
theorem dX1_areaAt_5 : decode cX1_areaAt 5 = .ok (.imul, 1) := by decide +kernel
theorem dX1_areaAt_6 : decode cX1_areaAt 6 = .ok (.bipush 8, 2) := by decide +kernel
theorem dX1_areaAt_8 : decode cX1_areaAt 8 = .ok (.iadd, 1) := by decide +kernel
theorem dX1_areaAt_9 : decode cX1_areaAt 9 = .ok (.baload, 1) := by decide +kernel
theorem dX1_areaAt_10 : decode cX1_areaAt 10 = .ok (.sipush 255, 3) := by decide +kernel
theorem dX1_areaAt_13 : decode cX1_areaAt 13 = .ok (.iand, 1) := by decide +kernel
theorem dX1_areaAt_14 : decode cX1_areaAt 14 = .ok (.ireturn, 1) := by decide +kernel
theorem dX1_sequenceAt_0 : decode cX1_sequenceAt 0 = .ok (.aload_n 0, 1) := by decide +kernel
theorem dX1_sequenceAt_1 : decode cX1_sequenceAt 1 = .ok (.iload_n 1, 1) := by decide +kernel
theorem dX1_sequenceAt_2 : decode cX1_sequenceAt 2 = .ok (.sipush 512, 3) := by decide +kernel
theorem dX1_sequenceAt_5 : decode cX1_sequenceAt 5 = .ok (.imul, 1) := by decide +kernel
theorem dX1_sequenceAt_6 : decode cX1_sequenceAt 6 = .ok (.iconst 4, 1) := by decide +kernel
theorem dX1_sequenceAt_7 : decode cX1_sequenceAt 7 = .ok (.iadd, 1) := by decide +kernel
theorem dX1_sequenceAt_8 : decode cX1_sequenceAt 8 = .ok (.iconst 4, 1) := by decide +kernel
theorem dX1_sequenceAt_9 : decode cX1_sequenceAt 9 = .ok (.invokestatic 19, 3) := by decide +kernel
theorem dX1_sequenceAt_12 : decode cX1_sequenceAt 12 = .ok (.l2i, 1) := by decide +kernel
theorem dX1_sequenceAt_13 : decode cX1_sequenceAt 13 = .ok (.ireturn, 1) := by decide +kernel
theorem dX1_isGood_0 : decode cX1_isGood 0 = .ok (.iload_n 1, 1) := by decide +kernel
theorem dX1_isGood_1 : decode cX1_isGood 1 = .ok (.sipush 512, 3) := by decide +kernel
theorem dX1_isGood_4 : decode cX1_isGood 4 = .ok (.imul, 1) := by decide +kernel
theorem dX1_isGood_5 : decode cX1_isGood 5 = .ok (.istore_n 2, 1) := by decide +kernel
theorem dX1_isGood_6 : decode cX1_isGood 6 = .ok (.aload_n 0, 1) := by decide +kernel
theorem dX1_isGood_7 : decode cX1_isGood 7 = .ok (.iload_n 2, 1) := by decide +kernel
theorem dX1_isGood_8 : decode cX1_isGood 8 = .ok (.iconst 4, 1) := by decide +kernel
theorem dX1_isGood_9 : decode cX1_isGood 9 = .ok (.iadd, 1) := by decide +kernel
theorem dX1_isGood_10 : decode cX1_isGood 10 = .ok (.iconst 4, 1) := by decide +kernel
theorem dX1_isGood_11 : decode cX1_isGood 11 = .ok (.invokestatic 19, 3) := by decide +kernel
theorem dX1_isGood_14 : decode cX1_isGood 14 = .ok (.lstore_n 3, 1) := by decide +kernel
theorem dX1_isGood_15 : decode cX1_isGood 15 = .ok (.lload_n 3, 1) := by decide +kernel
theorem dX1_isGood_16 : decode cX1_isGood 16 = .ok (.ldc2_w 25, 3) := by decide +kernel
theorem dX1_isGood_19 : decode cX1_isGood 19 = .ok (.lcmp, 1) := by decide +kernel
theorem dX1_isGood_20 : decode cX1_isGood 20 = .ok (.ifCond .ge 23, 3) := by decide +kernel
theorem dX1_isGood_23 : decode cX1_isGood 23 = .ok (.lload_n 3, 1) := by decide +kernel
theorem dX1_isGood_24 : decode cX1_isGood 24 = .ok (.ldc2_w 27, 3) := by decide +kernel
theorem dX1_isGood_27 : decode cX1_isGood 27 = .ok (.lrem, 1) := by decide +kernel
theorem dX1_isGood_28 : decode cX1_isGood 28 = .ok (.iload_n 1, 1) := by decide +kernel
theorem dX1_isGood_29 : decode cX1_isGood 29 = .ok (.i2l, 1) := by decide +kernel
theorem dX1_isGood_30 : decode cX1_isGood 30 = .ok (.lcmp, 1) := by decide +kernel
theorem dX1_isGood_31 : decode cX1_isGood 31 = .ok (.ifCond .ne 12, 3) := by decide +kernel
theorem dX1_isGood_34 : decode cX1_isGood 34 = .ok (.aload_n 0, 1) := by decide +kernel
theorem dX1_isGood_35 : decode cX1_isGood 35 = .ok (.iload_n 1, 1) := by decide +kernel
theorem dX1_isGood_36 : decode cX1_isGood 36 = .ok (.invokestatic 29, 3) := by decide +kernel
theorem dX1_isGood_39 : decode cX1_isGood 39 = .ok (.iconst 1, 1) := by decide +kernel
theorem dX1_isGood_40 : decode cX1_isGood 40 = .ok (.if_icmp .le 5, 3) := by decide +kernel
theorem dX1_isGood_43 : decode cX1_isGood 43 = .ok (.iconst 0, 1) := by decide +kernel
theorem dX1_isGood_44 : decode cX1_isGood 44 = .ok (.ireturn, 1) := by decide +kernel
theorem dX1_isGood_45 : decode cX1_isGood 45 = .ok (.aload_n 0, 1) := by decide +kernel
theorem dX1_isGood_46 : decode cX1_isGood 46 = .ok (.iload_n 2, 1) := by decide +kernel
theorem dX1_isGood_47 : decode cX1_isGood 47 = .ok (.sipush 508, 3) := by decide +kernel
theorem dX1_isGood_50 : decode cX1_isGood 50 = .ok (.lload_n 3, 1) := by decide +kernel
theorem dX1_isGood_51 : decode cX1_isGood 51 = .ok (.l2i, 1) := by decide +kernel
theorem dX1_isGood_52 : decode cX1_isGood 52 = .ok (.invokestatic 32, 3) := by decide +kernel
theorem dX1_isGood_55 : decode cX1_isGood 55 = .ok (.ireturn, 1) := by decide +kernel
theorem dX1_counting_0 : decode cX1_counting 0 = .ok (.iconst (-1), 1) := by decide +kernel
theorem dX1_counting_1 : decode cX1_counting 1 = .ok (.istore_n 1, 1) := by decide +kernel
theorem dX1_counting_2 : decode cX1_counting 2 = .ok (.iconst 0, 1) := by decide +kernel
theorem dX1_counting_3 : decode cX1_counting 3 = .ok (.istore_n 2, 1) := by decide +kernel
theorem dX1_counting_4 : decode cX1_counting 4 = .ok (.iload_n 2, 1) := by decide +kernel
theorem dX1_counting_5 : decode cX1_counting 5 = .ok (.iconst 2, 1) := by decide +kernel
theorem dX1_counting_6 : decode cX1_counting 6 = .ok (.if_icmp .ge 37, 3) := by decide +kernel
theorem dX1_counting_9 : decode cX1_counting 9 = .ok (.aload_n 0, 1) := by decide +kernel
theorem dX1_counting_10 : decode cX1_counting 10 = .ok (.iload_n 2, 1) := by decide +kernel
theorem dX1_counting_11 : decode cX1_counting 11 = .ok (.invokestatic 9, 3) := by decide +kernel
theorem dX1_counting_14 : decode cX1_counting 14 = .ok (.ifCond .eq 23, 3) := by decide +kernel
theorem dX1_counting_17 : decode cX1_counting 17 = .ok (.iload_n 1, 1) := by decide +kernel
theorem dX1_counting_18 : decode cX1_counting 18 = .ok (.iconst (-1), 1) := by decide +kernel
theorem dX1_counting_19 : decode cX1_counting 19 = .ok (.if_icmp .eq 16, 3) := by decide +kernel
theorem dX1_counting_22 : decode cX1_counting 22 = .ok (.aload_n 0, 1) := by decide +kernel
theorem dX1_counting_23 : decode cX1_counting 23 = .ok (.iload_n 2, 1) := by decide +kernel
theorem dX1_counting_24 : decode cX1_counting 24 = .ok (.invokestatic 15, 3) := by decide +kernel
theorem dX1_counting_27 : decode cX1_counting 27 = .ok (.aload_n 0, 1) := by decide +kernel
theorem dX1_counting_28 : decode cX1_counting 28 = .ok (.iload_n 1, 1) := by decide +kernel
theorem dX1_counting_29 : decode cX1_counting 29 = .ok (.invokestatic 15, 3) := by decide +kernel
theorem dX1_counting_32 : decode cX1_counting 32 = .ok (.if_icmp .le 5, 3) := by decide +kernel
theorem dX1_counting_35 : decode cX1_counting 35 = .ok (.iload_n 2, 1) := by decide +kernel
theorem dX1_counting_36 : decode cX1_counting 36 = .ok (.istore_n 1, 1) := by decide +kernel
theorem dX1_counting_37 : decode cX1_counting 37 = .ok (.iinc 2 1, 3) := by decide +kernel
theorem dX1_counting_40 : decode cX1_counting 40 = .ok (.goto (-36), 3) := by decide +kernel
theorem dX1_counting_43 : decode cX1_counting 43 = .ok (.iload_n 1, 1) := by decide +kernel
theorem dX1_counting_44 : decode cX1_counting 44 = .ok (.ireturn, 1) := by decide +kernel
theorem dX1_write_0 : decode cX1_write 0 = .ok (.aload_n 0, 1) := by decide +kernel
theorem dX1_write_1 : decode cX1_write 1 = .ok (.iload_n 1, 1) := by decide +kernel
theorem dX1_write_2 : decode cX1_write 2 = .ok (.iconst 4, 1) := by decide +kernel
theorem dX1_write_3 : decode cX1_write 3 = .ok (.iload_n 2, 1) := by decide +kernel
theorem dX1_write_4 : decode cX1_write 4 = .ok (.i2l, 1) := by decide +kernel
theorem dX1_write_5 : decode cX1_write 5 = .ok (.invokestatic 36, 3) := by decide +kernel
theorem dX1_write_8 : decode cX1_write 8 = .ok (.aload_n 0, 1) := by decide +kernel
theorem dX1_write_9 : decode cX1_write 9 = .ok (.iload_n 1, 1) := by decide +kernel
theorem dX1_write_10 : decode cX1_write 10 = .ok (.iconst 4, 1) := by decide +kernel
theorem dX1_write_11 : decode cX1_write 11 = .ok (.iadd, 1) := by decide +kernel
theorem dX1_write_12 : decode cX1_write 12 = .ok (.iconst 4, 1) := by decide +kernel
theorem dX1_write_13 : decode cX1_write 13 = .ok (.iload_n 3, 1) := by decide +kernel
theorem dX1_write_14 : decode cX1_write 14 = .ok (.i2l, 1) := by decide +kernel
theorem dX1_write_15 : decode cX1_write 15 = .ok (.invokestatic 36, 3) := by decide +kernel
theorem dX1_write_18 : decode cX1_write 18 = .ok (.aload_n 0, 1) := by decide +kernel
theorem dX1_write_19 : decode cX1_write 19 = .ok (.iload_n 1, 1) := by decide +kernel
theorem dX1_write_20 : decode cX1_write 20 = .ok (.bipush 8, 2) := by decide +kernel
theorem dX1_write_22 : decode cX1_write 22 = .ok (.iadd, 1) := by decide +kernel
theorem dX1_write_23 : decode cX1_write 23 = .ok (.iload 4, 2) := by decide +kernel
theorem dX1_write_25 : decode cX1_write 25 = .ok (.i2b, 1) := by decide +kernel
theorem dX1_write_26 : decode cX1_write 26 = .ok (.bastore, 1) := by decide +kernel
theorem dX1_write_27 : decode cX1_write 27 = .ok (.aload_n 0, 1) := by decide +kernel
theorem dX1_write_28 : decode cX1_write 28 = .ok (.iload_n 1, 1) := by decide +kernel
theorem dX1_write_29 : decode cX1_write 29 = .ok (.sipush 508, 3) := by decide +kernel
theorem dX1_write_32 : decode cX1_write 32 = .ok (.iload_n 3, 1) := by decide +kernel
theorem dX1_write_33 : decode cX1_write 33 = .ok (.invokestatic 40, 3) := by decide +kernel
theorem dX1_write_36 : decode cX1_write 36 = .ok (.return_, 1) := by decide +kernel
theorem dX0_bring_0 : decode cX0_bring 0 = .ok (.iload_n 1, 1) := by decide +kernel
theorem dX0_bring_1 : decode cX0_bring 1 = .ok (.aload_n 0, 1) := by decide +kernel
theorem dX0_bring_2 : decode cX0_bring 2 = .ok (.getfield 27, 3) := by decide +kernel
theorem dX0_bring_5 : decode cX0_bring 5 = .ok (.invokestatic 47, 3) := by decide +kernel
theorem dX0_bring_8 : decode cX0_bring 8 = .ok (.istore_n 3, 1) := by decide +kernel
theorem dX0_bring_9 : decode cX0_bring 9 = .ok (.iconst 0, 1) := by decide +kernel
theorem dX0_bring_10 : decode cX0_bring 10 = .ok (.istore 4, 2) := by decide +kernel
theorem dX0_bring_12 : decode cX0_bring 12 = .ok (.iload 4, 2) := by decide +kernel
theorem dX0_bring_14 : decode cX0_bring 14 = .ok (.iload_n 3, 1) := by decide +kernel
theorem dX0_bring_15 : decode cX0_bring 15 = .ok (.if_icmp .gt 63, 3) := by decide +kernel
theorem dX0_bring_18 : decode cX0_bring 18 = .ok (.iload 4, 2) := by decide +kernel
theorem dX0_bring_20 : decode cX0_bring 20 = .ok (.aload_n 0, 1) := by decide +kernel
theorem dX0_bring_21 : decode cX0_bring 21 = .ok (.getfield 27, 3) := by decide +kernel
theorem dX0_bring_24 : decode cX0_bring 24 = .ok (.if_icmp .ge 54, 3) := by decide +kernel
theorem dX0_bring_27 : decode cX0_bring 27 = .ok (.iload 4, 2) := by decide +kernel
theorem dX0_bring_29 : decode cX0_bring 29 = .ok (.iload_n 3, 1) := by decide +kernel
theorem dX0_bring_30 : decode cX0_bring 30 = .ok (.if_icmp .ge 9, 3) := by decide +kernel
theorem dX0_bring_33 : decode cX0_bring 33 = .ok (.sipush 512, 3) := by decide +kernel
theorem dX0_bring_36 : decode cX0_bring 36 = .ok (.goto 4, 3) := by decide +kernel
theorem dX0_bring_39 : decode cX0_bring 39 = .ok (.iload_n 2, 1) := by decide +kernel
theorem dX0_bring_40 : decode cX0_bring 40 = .ok (.istore 5, 2) := by decide +kernel
theorem dX0_bring_42 : decode cX0_bring 42 = .ok (.aload_n 0, 1) := by decide +kernel
theorem dX0_bring_43 : decode cX0_bring 43 = .ok (.getfield 20, 3) := by decide +kernel
theorem dX0_bring_46 : decode cX0_bring 46 = .ok (.iload 4, 2) := by decide +kernel
theorem dX0_bring_48 : decode cX0_bring 48 = .ok (.sipush 512, 3) := by decide +kernel
theorem dX0_bring_51 : decode cX0_bring 51 = .ok (.imul, 1) := by decide +kernel
theorem dX0_bring_52 : decode cX0_bring 52 = .ok (.aload_n 0, 1) := by decide +kernel
theorem dX0_bring_53 : decode cX0_bring 53 = .ok (.getfield 15, 3) := by decide +kernel
theorem dX0_bring_56 : decode cX0_bring 56 = .ok (.aload_n 0, 1) := by decide +kernel
theorem dX0_bring_57 : decode cX0_bring 57 = .ok (.getfield 23, 3) := by decide +kernel
theorem dX0_bring_60 : decode cX0_bring 60 = .ok (.iload 4, 2) := by decide +kernel
theorem dX0_bring_62 : decode cX0_bring 62 = .ok (.iaload, 1) := by decide +kernel
theorem dX0_bring_63 : decode cX0_bring 63 = .ok (.sipush 512, 3) := by decide +kernel
theorem dX0_bring_66 : decode cX0_bring 66 = .ok (.imul, 1) := by decide +kernel
theorem dX0_bring_67 : decode cX0_bring 67 = .ok (.iload 5, 2) := by decide +kernel
theorem dX0_bring_69 : decode cX0_bring 69 = .ok (.invokestatic 41, 3) := by decide +kernel
theorem dX0_bring_72 : decode cX0_bring 72 = .ok (.iinc 4 1, 3) := by decide +kernel
theorem dX0_bring_75 : decode cX0_bring 75 = .ok (.goto (-63), 3) := by decide +kernel
theorem dX0_bring_78 : decode cX0_bring 78 = .ok (.aload_n 0, 1) := by decide +kernel
theorem dX0_bring_79 : decode cX0_bring 79 = .ok (.iconst 0, 1) := by decide +kernel
theorem dX0_bring_80 : decode cX0_bring 80 = .ok (.putfield 27, 3) := by decide +kernel
theorem dX0_bring_83 : decode cX0_bring 83 = .ok (.iload_n 3, 1) := by decide +kernel
theorem dX0_bring_84 : decode cX0_bring 84 = .ok (.ireturn, 1) := by decide +kernel
theorem dX0_addTarget_0 : decode cX0_addTarget 0 = .ok (.aload_n 0, 1) := by decide +kernel
theorem dX0_addTarget_1 : decode cX0_addTarget 1 = .ok (.getfield 27, 3) := by decide +kernel
theorem dX0_addTarget_4 : decode cX0_addTarget 4 = .ok (.sipush 512, 3) := by decide +kernel
theorem dX0_addTarget_7 : decode cX0_addTarget 7 = .ok (.imul, 1) := by decide +kernel
theorem dX0_addTarget_8 : decode cX0_addTarget 8 = .ok (.istore_n 2, 1) := by decide +kernel
theorem dX0_addTarget_9 : decode cX0_addTarget 9 = .ok (.aload_n 0, 1) := by decide +kernel
theorem dX0_addTarget_10 : decode cX0_addTarget 10 = .ok (.getfield 23, 3) := by decide +kernel
theorem dX0_addTarget_13 : decode cX0_addTarget 13 = .ok (.aload_n 0, 1) := by decide +kernel
theorem dX0_addTarget_14 : decode cX0_addTarget 14 = .ok (.getfield 27, 3) := by decide +kernel
theorem dX0_addTarget_17 : decode cX0_addTarget 17 = .ok (.iload_n 1, 1) := by decide +kernel
theorem dX0_addTarget_18 : decode cX0_addTarget 18 = .ok (.iastore, 1) := by decide +kernel
theorem dX0_addTarget_19 : decode cX0_addTarget 19 = .ok (.aload_n 0, 1) := by decide +kernel
theorem dX0_addTarget_20 : decode cX0_addTarget 20 = .ok (.dup, 1) := by decide +kernel
theorem dX0_addTarget_21 : decode cX0_addTarget 21 = .ok (.getfield 27, 3) := by decide +kernel
theorem dX0_addTarget_24 : decode cX0_addTarget 24 = .ok (.iconst 1, 1) := by decide +kernel
theorem dX0_addTarget_25 : decode cX0_addTarget 25 = .ok (.iadd, 1) := by decide +kernel
theorem dX0_addTarget_26 : decode cX0_addTarget 26 = .ok (.putfield 27, 3) := by decide +kernel
theorem dX0_addTarget_29 : decode cX0_addTarget 29 = .ok (.iload_n 2, 1) := by decide +kernel
theorem dX0_addTarget_30 : decode cX0_addTarget 30 = .ok (.ireturn, 1) := by decide +kernel
theorem dX0_waitWithZeros_0 : decode cX0_waitWithZeros 0 = .ok (.aload_n 0, 1) := by decide +kernel
theorem dX0_waitWithZeros_1 : decode cX0_waitWithZeros 1 = .ok (.getfield 27, 3) := by decide +kernel
theorem dX0_waitWithZeros_4 : decode cX0_waitWithZeros 4 = .ok (.bipush 64, 2) := by decide +kernel
theorem dX0_waitWithZeros_6 : decode cX0_waitWithZeros 6 = .ok (.if_icmp .lt 11, 3) := by decide +kernel
theorem dX0_waitWithZeros_9 : decode cX0_waitWithZeros 9 = .ok (.aload_n 0, 1) := by decide +kernel
theorem dX0_waitWithZeros_10 : decode cX0_waitWithZeros 10 = .ok (.bipush 64, 2) := by decide +kernel
theorem dX0_waitWithZeros_12 : decode cX0_waitWithZeros 12 = .ok (.iconst 0, 1) := by decide +kernel
theorem dX0_waitWithZeros_13 : decode cX0_waitWithZeros 13 = .ok (.invokevirtual 30, 3) := by decide +kernel
theorem dX0_waitWithZeros_16 : decode cX0_waitWithZeros 16 = .ok (.pop, 1) := by decide +kernel
theorem dX0_waitWithZeros_17 : decode cX0_waitWithZeros 17 = .ok (.aload_n 0, 1) := by decide +kernel
theorem dX0_waitWithZeros_18 : decode cX0_waitWithZeros 18 = .ok (.getfield 27, 3) := by decide +kernel
theorem dX0_waitWithZeros_21 : decode cX0_waitWithZeros 21 = .ok (.sipush 512, 3) := by decide +kernel
theorem dX0_waitWithZeros_24 : decode cX0_waitWithZeros 24 = .ok (.imul, 1) := by decide +kernel
theorem dX0_waitWithZeros_25 : decode cX0_waitWithZeros 25 = .ok (.istore_n 2, 1) := by decide +kernel
theorem dX0_waitWithZeros_26 : decode cX0_waitWithZeros 26 = .ok (.iconst 0, 1) := by decide +kernel
theorem dX0_waitWithZeros_27 : decode cX0_waitWithZeros 27 = .ok (.istore_n 3, 1) := by decide +kernel
theorem dX0_waitWithZeros_28 : decode cX0_waitWithZeros 28 = .ok (.iload_n 3, 1) := by decide +kernel
theorem dX0_waitWithZeros_29 : decode cX0_waitWithZeros 29 = .ok (.sipush 512, 3) := by decide +kernel
theorem dX0_waitWithZeros_32 : decode cX0_waitWithZeros 32 = .ok (.if_icmp .ge 18, 3) := by decide +kernel
theorem dX0_waitWithZeros_35 : decode cX0_waitWithZeros 35 = .ok (.aload_n 0, 1) := by decide +kernel
theorem dX0_waitWithZeros_36 : decode cX0_waitWithZeros 36 = .ok (.getfield 20, 3) := by decide +kernel
theorem dX0_waitWithZeros_39 : decode cX0_waitWithZeros 39 = .ok (.iload_n 2, 1) := by decide +kernel
theorem dX0_waitWithZeros_40 : decode cX0_waitWithZeros 40 = .ok (.iload_n 3, 1) := by decide +kernel
theorem dX0_waitWithZeros_41 : decode cX0_waitWithZeros 41 = .ok (.iadd, 1) := by decide +kernel
theorem dX0_waitWithZeros_42 : decode cX0_waitWithZeros 42 = .ok (.iconst 0, 1) := by decide +kernel
theorem dX0_waitWithZeros_43 : decode cX0_waitWithZeros 43 = .ok (.bastore, 1) := by decide +kernel
theorem dX0_waitWithZeros_44 : decode cX0_waitWithZeros 44 = .ok (.iinc 3 1, 3) := by decide +kernel
theorem dX0_waitWithZeros_47 : decode cX0_waitWithZeros 47 = .ok (.goto (-19), 3) := by decide +kernel
theorem dX0_waitWithZeros_50 : decode cX0_waitWithZeros 50 = .ok (.aload_n 0, 1) := by decide +kernel
theorem dX0_waitWithZeros_51 : decode cX0_waitWithZeros 51 = .ok (.iload_n 1, 1) := by decide +kernel
theorem dX0_waitWithZeros_52 : decode cX0_waitWithZeros 52 = .ok (.invokevirtual 34, 3) := by decide +kernel
theorem dX0_waitWithZeros_55 : decode cX0_waitWithZeros 55 = .ok (.ireturn, 1) := by decide +kernel
theorem dJ9_floorMod_7cf53_0 : decode cJ9_floorMod_7cf53 0 = .ok (.iload_n 0, 1) := by decide +kernel
theorem dJ9_floorMod_7cf53_1 : decode cJ9_floorMod_7cf53 1 = .ok (.iload_n 1, 1) := by decide +kernel
theorem dJ9_floorMod_7cf53_2 : decode cJ9_floorMod_7cf53 2 = .ok (.irem, 1) := by decide +kernel
theorem dJ9_floorMod_7cf53_3 : decode cJ9_floorMod_7cf53 3 = .ok (.istore_n 2, 1) := by decide +kernel
theorem dJ9_floorMod_7cf53_4 : decode cJ9_floorMod_7cf53 4 = .ok (.iload_n 0, 1) := by decide +kernel
theorem dJ9_floorMod_7cf53_5 : decode cJ9_floorMod_7cf53 5 = .ok (.iload_n 1, 1) := by decide +kernel
theorem dJ9_floorMod_7cf53_6 : decode cJ9_floorMod_7cf53 6 = .ok (.ixor, 1) := by decide +kernel
theorem dJ9_floorMod_7cf53_7 : decode cJ9_floorMod_7cf53 7 = .ok (.ifCond .ge 11, 3) := by decide +kernel
theorem dJ9_floorMod_7cf53_10 : decode cJ9_floorMod_7cf53 10 = .ok (.iload_n 2, 1) := by decide +kernel
theorem dJ9_floorMod_7cf53_11 : decode cJ9_floorMod_7cf53 11 = .ok (.ifCond .eq 7, 3) := by decide +kernel
theorem dJ9_floorMod_7cf53_14 : decode cJ9_floorMod_7cf53 14 = .ok (.iload_n 2, 1) := by decide +kernel
theorem dJ9_floorMod_7cf53_15 : decode cJ9_floorMod_7cf53 15 = .ok (.iload_n 1, 1) := by decide +kernel
theorem dJ9_floorMod_7cf53_16 : decode cJ9_floorMod_7cf53 16 = .ok (.iadd, 1) := by decide +kernel
theorem dJ9_floorMod_7cf53_17 : decode cJ9_floorMod_7cf53 17 = .ok (.ireturn, 1) := by decide +kernel
theorem dJ9_floorMod_7cf53_18 : decode cJ9_floorMod_7cf53 18 = .ok (.iload_n 2, 1) := by decide +kernel
theorem dJ9_floorMod_7cf53_19 : decode cJ9_floorMod_7cf53 19 = .ok (.ireturn, 1) := by decide +kernel
theorem dX5_firstSector_0 : decode cX5_firstSector 0 = .ok (.iconst 2, 1) := by decide +kernel
theorem dX5_firstSector_1 : decode cX5_firstSector 1 = .ok (.iload_n 1, 1) := by decide +kernel
theorem dX5_firstSector_2 : decode cX5_firstSector 2 = .ok (.aload_n 0, 1) := by decide +kernel
theorem dX5_firstSector_3 : decode cX5_firstSector 3 = .ok (.getfield 18, 3) := by decide +kernel
theorem dX5_firstSector_6 : decode cX5_firstSector 6 = .ok (.imul, 1) := by decide +kernel
theorem dX5_firstSector_7 : decode cX5_firstSector 7 = .ok (.iadd, 1) := by decide +kernel
theorem dX5_firstSector_8 : decode cX5_firstSector 8 = .ok (.ireturn, 1) := by decide +kernel
theorem dX5_clearArea_0 : decode cX5_clearArea 0 = .ok (.aload_n 0, 1) := by decide +kernel
theorem dX5_clearArea_1 : decode cX5_clearArea 1 = .ok (.iload_n 1, 1) := by decide +kernel
theorem dX5_clearArea_2 : decode cX5_clearArea 2 = .ok (.invokevirtual 211, 3) := by decide +kernel
theorem dX5_clearArea_5 : decode cX5_clearArea 5 = .ok (.istore_n 2, 1) := by decide +kernel
theorem dX5_clearArea_6 : decode cX5_clearArea 6 = .ok (.iconst 0, 1) := by decide +kernel
theorem dX5_clearArea_7 : decode cX5_clearArea 7 = .ok (.istore_n 3, 1) := by decide +kernel
theorem dX5_clearArea_8 : decode cX5_clearArea 8 = .ok (.iload_n 3, 1) := by decide +kernel
theorem dX5_clearArea_9 : decode cX5_clearArea 9 = .ok (.aload_n 0, 1) := by decide +kernel
theorem dX5_clearArea_10 : decode cX5_clearArea 10 = .ok (.getfield 18, 3) := by decide +kernel
theorem dX5_clearArea_13 : decode cX5_clearArea 13 = .ok (.if_icmp .ge 20, 3) := by decide +kernel
theorem dX5_clearArea_16 : decode cX5_clearArea 16 = .ok (.aload_n 0, 1) := by decide +kernel
theorem dX5_clearArea_17 : decode cX5_clearArea 17 = .ok (.getfield 27, 3) := by decide +kernel
theorem dX5_clearArea_20 : decode cX5_clearArea 20 = .ok (.iload_n 2, 1) := by decide +kernel
theorem dX5_clearArea_21 : decode cX5_clearArea 21 = .ok (.iload_n 3, 1) := by decide +kernel
theorem dX5_clearArea_22 : decode cX5_clearArea 22 = .ok (.iadd, 1) := by decide +kernel
theorem dX5_clearArea_23 : decode cX5_clearArea 23 = .ok (.invokevirtual 218, 3) := by decide +kernel
theorem dX5_clearArea_26 : decode cX5_clearArea 26 = .ok (.pop, 1) := by decide +kernel
theorem dX5_clearArea_27 : decode cX5_clearArea 27 = .ok (.iinc 3 1, 3) := by decide +kernel
theorem dX5_clearArea_30 : decode cX5_clearArea 30 = .ok (.goto (-22), 3) := by decide +kernel
theorem dX5_clearArea_33 : decode cX5_clearArea 33 = .ok (.return_, 1) := by decide +kernel
theorem dX5_changeHeads_0 : decode cX5_changeHeads 0 = .ok (.iconst 0, 1) := by decide +kernel
theorem dX5_changeHeads_1 : decode cX5_changeHeads 1 = .ok (.istore_n 1, 1) := by decide +kernel
theorem dX5_changeHeads_2 : decode cX5_changeHeads 2 = .ok (.iload_n 1, 1) := by decide +kernel
theorem dX5_changeHeads_3 : decode cX5_changeHeads 3 = .ok (.iconst 2, 1) := by decide +kernel
theorem dX5_changeHeads_4 : decode cX5_changeHeads 4 = .ok (.if_icmp .ge 58, 3) := by decide +kernel
theorem dX5_changeHeads_7 : decode cX5_changeHeads 7 = .ok (.aload_n 0, 1) := by decide +kernel
theorem dX5_changeHeads_8 : decode cX5_changeHeads 8 = .ok (.dup, 1) := by decide +kernel
theorem dX5_changeHeads_9 : decode cX5_changeHeads 9 = .ok (.getfield 195, 3) := by decide +kernel
theorem dX5_changeHeads_12 : decode cX5_changeHeads 12 = .ok (.iconst 1, 1) := by decide +kernel
theorem dX5_changeHeads_13 : decode cX5_changeHeads 13 = .ok (.iadd, 1) := by decide +kernel
theorem dX5_changeHeads_14 : decode cX5_changeHeads 14 = .ok (.putfield 195, 3) := by decide +kernel
theorem dX5_changeHeads_17 : decode cX5_changeHeads 17 = .ok (.aload_n 0, 1) := by decide +kernel
theorem dX5_changeHeads_18 : decode cX5_changeHeads 18 = .ok (.getfield 27, 3) := by decide +kernel
theorem dX5_changeHeads_21 : decode cX5_changeHeads 21 = .ok (.aload_n 0, 1) := by decide +kernel
theorem dX5_changeHeads_22 : decode cX5_changeHeads 22 = .ok (.getfield 195, 3) := by decide +kernel
theorem dX5_changeHeads_25 : decode cX5_changeHeads 25 = .ok (.iconst 2, 1) := by decide +kernel
theorem dX5_changeHeads_26 : decode cX5_changeHeads 26 = .ok (.invokestatic 221, 3) := by decide +kernel
theorem dX5_changeHeads_29 : decode cX5_changeHeads 29 = .ok (.invokevirtual 218, 3) := by decide +kernel
theorem dX5_changeHeads_32 : decode cX5_changeHeads 32 = .ok (.istore_n 2, 1) := by decide +kernel
theorem dX5_changeHeads_33 : decode cX5_changeHeads 33 = .ok (.aload_n 0, 1) := by decide +kernel
theorem dX5_changeHeads_34 : decode cX5_changeHeads 34 = .ok (.getfield 27, 3) := by decide +kernel
theorem dX5_changeHeads_37 : decode cX5_changeHeads 37 = .ok (.getfield 224, 3) := by decide +kernel
theorem dX5_changeHeads_40 : decode cX5_changeHeads 40 = .ok (.iload_n 2, 1) := by decide +kernel
theorem dX5_changeHeads_41 : decode cX5_changeHeads 41 = .ok (.aload_n 0, 1) := by decide +kernel
theorem dX5_changeHeads_42 : decode cX5_changeHeads 42 = .ok (.getfield 83, 3) := by decide +kernel
theorem dX5_changeHeads_45 : decode cX5_changeHeads 45 = .ok (.aload_n 0, 1) := by decide +kernel
theorem dX5_changeHeads_46 : decode cX5_changeHeads 46 = .ok (.getfield 195, 3) := by decide +kernel
theorem dX5_changeHeads_49 : decode cX5_changeHeads 49 = .ok (.aload_n 0, 1) := by decide +kernel
theorem dX5_changeHeads_50 : decode cX5_changeHeads 50 = .ok (.getfield 128, 3) := by decide +kernel
theorem dX5_changeHeads_53 : decode cX5_changeHeads 53 = .ok (.invokestatic 227, 3) := by decide +kernel
theorem dX5_changeHeads_56 : decode cX5_changeHeads 56 = .ok (.iinc 1 1, 3) := by decide +kernel
theorem dX5_changeHeads_59 : decode cX5_changeHeads 59 = .ok (.goto (-57), 3) := by decide +kernel
theorem dX5_changeHeads_62 : decode cX5_changeHeads 62 = .ok (.return_, 1) := by decide +kernel
theorem dX3_wrongCount_0 : decode cX3_wrongCount 0 = .ok (.aload_n 0, 1) := by decide +kernel
theorem dX3_wrongCount_1 : decode cX3_wrongCount 1 = .ok (.getfield 35, 3) := by decide +kernel
theorem dX3_wrongCount_4 : decode cX3_wrongCount 4 = .ok (.ireturn, 1) := by decide +kernel
theorem dX3_end_0 : decode cX3_end 0 = .ok (.aload_n 0, 1) := by decide +kernel
theorem dX3_end_1 : decode cX3_end 1 = .ok (.getfield 31, 3) := by decide +kernel
theorem dX3_end_4 : decode cX3_end 4 = .ok (.ireturn, 1) := by decide +kernel
theorem dX3_places_0 : decode cX3_places 0 = .ok (.aload_n 0, 1) := by decide +kernel
theorem dX3_places_1 : decode cX3_places 1 = .ok (.getfield 9, 3) := by decide +kernel
theorem dX3_places_4 : decode cX3_places 4 = .ok (.arraylength, 1) := by decide +kernel
theorem dX3_places_5 : decode cX3_places 5 = .ok (.ireturn, 1) := by decide +kernel
theorem dX3_indexPlace_0 : decode cX3_indexPlace 0 = .ok (.aload_n 0, 1) := by decide +kernel
theorem dX3_indexPlace_1 : decode cX3_indexPlace 1 = .ok (.getfield 9, 3) := by decide +kernel
theorem dX3_indexPlace_4 : decode cX3_indexPlace 4 = .ok (.iload_n 1, 1) := by decide +kernel
theorem dX3_indexPlace_5 : decode cX3_indexPlace 5 = .ok (.iaload, 1) := by decide +kernel
theorem dX3_indexPlace_6 : decode cX3_indexPlace 6 = .ok (.ifCond .ne 21, 3) := by decide +kernel
theorem dX3_indexPlace_9 : decode cX3_indexPlace 9 = .ok (.aload_n 0, 1) := by decide +kernel
theorem dX3_indexPlace_10 : decode cX3_indexPlace 10 = .ok (.dup, 1) := by decide +kernel
theorem dX3_indexPlace_11 : decode cX3_indexPlace 11 = .ok (.getfield 35, 3) := by decide +kernel
theorem dX3_indexPlace_14 : decode cX3_indexPlace 14 = .ok (.iconst 1, 1) := by decide +kernel
theorem dX3_indexPlace_15 : decode cX3_indexPlace 15 = .ok (.iadd, 1) := by decide +kernel
theorem dX3_indexPlace_16 : decode cX3_indexPlace 16 = .ok (.putfield 35, 3) := by decide +kernel
theorem dX3_indexPlace_19 : decode cX3_indexPlace 19 = .ok (.aload_n 0, 1) := by decide +kernel
theorem dX3_indexPlace_20 : decode cX3_indexPlace 20 = .ok (.iload_n 1, 1) := by decide +kernel
theorem dX3_indexPlace_21 : decode cX3_indexPlace 21 = .ok (.putfield 38, 3) := by decide +kernel
theorem dX3_indexPlace_24 : decode cX3_indexPlace 24 = .ok (.goto 33, 3) := by decide +kernel
theorem dX3_indexPlace_27 : decode cX3_indexPlace 27 = .ok (.aload_n 0, 1) := by decide +kernel
theorem dX3_indexPlace_28 : decode cX3_indexPlace 28 = .ok (.getfield 9, 3) := by decide +kernel
theorem dX3_indexPlace_31 : decode cX3_indexPlace 31 = .ok (.iload_n 1, 1) := by decide +kernel
theorem dX3_indexPlace_32 : decode cX3_indexPlace 32 = .ok (.iaload, 1) := by decide +kernel
theorem dX3_indexPlace_33 : decode cX3_indexPlace 33 = .ok (.iconst 1, 1) := by decide +kernel
theorem dX3_indexPlace_34 : decode cX3_indexPlace 34 = .ok (.if_icmp .ne 18, 3) := by decide +kernel
theorem dX3_indexPlace_37 : decode cX3_indexPlace 37 = .ok (.aload_n 0, 1) := by decide +kernel
theorem dX3_indexPlace_38 : decode cX3_indexPlace 38 = .ok (.getfield 28, 3) := by decide +kernel
theorem dX3_indexPlace_41 : decode cX3_indexPlace 41 = .ok (.aload_n 0, 1) := by decide +kernel
theorem dX3_indexPlace_42 : decode cX3_indexPlace 42 = .ok (.getfield 15, 3) := by decide +kernel
theorem dX3_indexPlace_45 : decode cX3_indexPlace 45 = .ok (.iload_n 1, 1) := by decide +kernel
theorem dX3_indexPlace_46 : decode cX3_indexPlace 46 = .ok (.iaload, 1) := by decide +kernel
theorem dX3_indexPlace_47 : decode cX3_indexPlace 47 = .ok (.iload_n 1, 1) := by decide +kernel
theorem dX3_indexPlace_48 : decode cX3_indexPlace 48 = .ok (.iastore, 1) := by decide +kernel
theorem dX3_indexPlace_49 : decode cX3_indexPlace 49 = .ok (.goto 8, 3) := by decide +kernel
theorem dX3_indexPlace_52 : decode cX3_indexPlace 52 = .ok (.aload_n 0, 1) := by decide +kernel
theorem dX3_indexPlace_53 : decode cX3_indexPlace 53 = .ok (.iload_n 1, 1) := by decide +kernel
theorem dX3_indexPlace_54 : decode cX3_indexPlace 54 = .ok (.putfield 41, 3) := by decide +kernel
theorem dX3_indexPlace_57 : decode cX3_indexPlace 57 = .ok (.return_, 1) := by decide +kernel
theorem dX3_index_0 : decode cX3_index 0 = .ok (.iconst 0, 1) := by decide +kernel
theorem dX3_index_1 : decode cX3_index 1 = .ok (.istore_n 1, 1) := by decide +kernel
theorem dX3_index_2 : decode cX3_index 2 = .ok (.iload_n 1, 1) := by decide +kernel
theorem dX3_index_3 : decode cX3_index 3 = .ok (.bipush 64, 2) := by decide +kernel
theorem dX3_index_5 : decode cX3_index 5 = .ok (.if_icmp .ge 16, 3) := by decide +kernel
theorem dX3_index_8 : decode cX3_index 8 = .ok (.aload_n 0, 1) := by decide +kernel
theorem dX3_index_9 : decode cX3_index 9 = .ok (.getfield 28, 3) := by decide +kernel
theorem dX3_index_12 : decode cX3_index 12 = .ok (.iload_n 1, 1) := by decide +kernel
theorem dX3_index_13 : decode cX3_index 13 = .ok (.iconst (-1), 1) := by decide +kernel
theorem dX3_index_14 : decode cX3_index 14 = .ok (.iastore, 1) := by decide +kernel
theorem dX3_index_15 : decode cX3_index 15 = .ok (.iinc 1 1, 3) := by decide +kernel
theorem dX3_index_18 : decode cX3_index 18 = .ok (.goto (-16), 3) := by decide +kernel
theorem dX3_index_21 : decode cX3_index 21 = .ok (.aload_n 0, 1) := by decide +kernel
theorem dX3_index_22 : decode cX3_index 22 = .ok (.iconst (-1), 1) := by decide +kernel
theorem dX3_index_23 : decode cX3_index 23 = .ok (.putfield 41, 3) := by decide +kernel
theorem dX3_index_26 : decode cX3_index 26 = .ok (.aload_n 0, 1) := by decide +kernel
theorem dX3_index_27 : decode cX3_index 27 = .ok (.iconst 0, 1) := by decide +kernel
theorem dX3_index_28 : decode cX3_index 28 = .ok (.putfield 35, 3) := by decide +kernel
theorem dX3_index_31 : decode cX3_index 31 = .ok (.aload_n 0, 1) := by decide +kernel
theorem dX3_index_32 : decode cX3_index 32 = .ok (.iconst (-1), 1) := by decide +kernel
theorem dX3_index_33 : decode cX3_index 33 = .ok (.putfield 38, 3) := by decide +kernel
theorem dX3_index_36 : decode cX3_index 36 = .ok (.iconst 0, 1) := by decide +kernel
theorem dX3_index_37 : decode cX3_index 37 = .ok (.istore_n 1, 1) := by decide +kernel
theorem dX3_index_38 : decode cX3_index 38 = .ok (.iload_n 1, 1) := by decide +kernel
theorem dX3_index_39 : decode cX3_index 39 = .ok (.aload_n 0, 1) := by decide +kernel
theorem dX3_index_40 : decode cX3_index 40 = .ok (.getfield 31, 3) := by decide +kernel
theorem dX3_index_43 : decode cX3_index 43 = .ok (.if_icmp .ge 14, 3) := by decide +kernel
theorem dX3_index_46 : decode cX3_index 46 = .ok (.aload_n 0, 1) := by decide +kernel
theorem dX3_index_47 : decode cX3_index 47 = .ok (.iload_n 1, 1) := by decide +kernel
theorem dX3_index_48 : decode cX3_index 48 = .ok (.invokevirtual 59, 3) := by decide +kernel
theorem dX3_index_51 : decode cX3_index 51 = .ok (.iinc 1 1, 3) := by decide +kernel
theorem dX3_index_54 : decode cX3_index 54 = .ok (.goto (-16), 3) := by decide +kernel
theorem dX3_index_57 : decode cX3_index 57 = .ok (.return_, 1) := by decide +kernel
theorem dX3_clear_0 : decode cX3_clear 0 = .ok (.aload_n 0, 1) := by decide +kernel
theorem dX3_clear_1 : decode cX3_clear 1 = .ok (.iconst 0, 1) := by decide +kernel
theorem dX3_clear_2 : decode cX3_clear 2 = .ok (.putfield 31, 3) := by decide +kernel
theorem dX3_clear_5 : decode cX3_clear 5 = .ok (.aload_n 0, 1) := by decide +kernel
theorem dX3_clear_6 : decode cX3_clear 6 = .ok (.invokevirtual 48, 3) := by decide +kernel
theorem dX3_clear_9 : decode cX3_clear 9 = .ok (.return_, 1) := by decide +kernel
theorem dX3_isKey_0 : decode cX3_isKey 0 = .ok (.iload_n 0, 1) := by decide +kernel
theorem dX3_isKey_1 : decode cX3_isKey 1 = .ok (.ifCond .lt 13, 3) := by decide +kernel
theorem dX3_isKey_4 : decode cX3_isKey 4 = .ok (.iload_n 0, 1) := by decide +kernel
theorem dX3_isKey_5 : decode cX3_isKey 5 = .ok (.bipush 64, 2) := by decide +kernel
theorem dX3_isKey_7 : decode cX3_isKey 7 = .ok (.if_icmp .ge 7, 3) := by decide +kernel
theorem dX3_isKey_10 : decode cX3_isKey 10 = .ok (.iconst 1, 1) := by decide +kernel
theorem dX3_isKey_11 : decode cX3_isKey 11 = .ok (.goto 4, 3) := by decide +kernel
theorem dX3_isKey_14 : decode cX3_isKey 14 = .ok (.iconst 0, 1) := by decide +kernel
theorem dX3_isKey_15 : decode cX3_isKey 15 = .ok (.ireturn, 1) := by decide +kernel
theorem dX3_isUser_0 : decode cX3_isUser 0 = .ok (.iload_n 0, 1) := by decide +kernel
theorem dX3_isUser_1 : decode cX3_isUser 1 = .ok (.ifCond .lt 13, 3) := by decide +kernel
theorem dX3_isUser_4 : decode cX3_isUser 4 = .ok (.iload_n 0, 1) := by decide +kernel
theorem dX3_isUser_5 : decode cX3_isUser 5 = .ok (.bipush 8, 2) := by decide +kernel
theorem dX3_isUser_7 : decode cX3_isUser 7 = .ok (.if_icmp .ge 7, 3) := by decide +kernel
theorem dX3_isUser_10 : decode cX3_isUser 10 = .ok (.iconst 1, 1) := by decide +kernel
theorem dX3_isUser_11 : decode cX3_isUser 11 = .ok (.goto 4, 3) := by decide +kernel
theorem dX3_isUser_14 : decode cX3_isUser 14 = .ok (.iconst 0, 1) := by decide +kernel
theorem dX3_isUser_15 : decode cX3_isUser 15 = .ok (.ireturn, 1) := by decide +kernel
theorem dX3_isFull_0 : decode cX3_isFull 0 = .ok (.aload_n 0, 1) := by decide +kernel
theorem dX3_isFull_1 : decode cX3_isFull 1 = .ok (.getfield 31, 3) := by decide +kernel
theorem dX3_isFull_4 : decode cX3_isFull 4 = .ok (.aload_n 0, 1) := by decide +kernel
theorem dX3_isFull_5 : decode cX3_isFull 5 = .ok (.getfield 9, 3) := by decide +kernel
theorem dX3_isFull_8 : decode cX3_isFull 8 = .ok (.arraylength, 1) := by decide +kernel
theorem dX3_isFull_9 : decode cX3_isFull 9 = .ok (.if_icmp .lt 7, 3) := by decide +kernel
theorem dX3_isFull_12 : decode cX3_isFull 12 = .ok (.iconst 1, 1) := by decide +kernel
theorem dX3_isFull_13 : decode cX3_isFull 13 = .ok (.goto 4, 3) := by decide +kernel
theorem dX3_isFull_16 : decode cX3_isFull 16 = .ok (.iconst 0, 1) := by decide +kernel
theorem dX3_isFull_17 : decode cX3_isFull 17 = .ok (.ireturn, 1) := by decide +kernel
theorem dX3_kindAt_0 : decode cX3_kindAt 0 = .ok (.iload_n 1, 1) := by decide +kernel
theorem dX3_kindAt_1 : decode cX3_kindAt 1 = .ok (.ifCond .lt 20, 3) := by decide +kernel
theorem dX3_kindAt_4 : decode cX3_kindAt 4 = .ok (.iload_n 1, 1) := by decide +kernel
theorem dX3_kindAt_5 : decode cX3_kindAt 5 = .ok (.aload_n 0, 1) := by decide +kernel
theorem dX3_kindAt_6 : decode cX3_kindAt 6 = .ok (.getfield 31, 3) := by decide +kernel
theorem dX3_kindAt_9 : decode cX3_kindAt 9 = .ok (.if_icmp .ge 12, 3) := by decide +kernel
theorem dX3_kindAt_12 : decode cX3_kindAt 12 = .ok (.aload_n 0, 1) := by decide +kernel
theorem dX3_kindAt_13 : decode cX3_kindAt 13 = .ok (.getfield 9, 3) := by decide +kernel
theorem dX3_kindAt_16 : decode cX3_kindAt 16 = .ok (.iload_n 1, 1) := by decide +kernel
theorem dX3_kindAt_17 : decode cX3_kindAt 17 = .ok (.iaload, 1) := by decide +kernel
theorem dX3_kindAt_18 : decode cX3_kindAt 18 = .ok (.goto 4, 3) := by decide +kernel
theorem dX3_kindAt_21 : decode cX3_kindAt 21 = .ok (.iconst 0, 1) := by decide +kernel
theorem dX3_kindAt_22 : decode cX3_kindAt 22 = .ok (.ireturn, 1) := by decide +kernel
theorem dX3_askCount_0 : decode cX3_askCount 0 = .ok (.aload_n 0, 1) := by decide +kernel
theorem dX3_askCount_1 : decode cX3_askCount 1 = .ok (.getfield 18, 3) := by decide +kernel
theorem dX3_askCount_4 : decode cX3_askCount 4 = .ok (.iload_n 1, 1) := by decide +kernel
theorem dX3_askCount_5 : decode cX3_askCount 5 = .ok (.iaload, 1) := by decide +kernel
theorem dX3_askCount_6 : decode cX3_askCount 6 = .ok (.ireturn, 1) := by decide +kernel
theorem dX3_askAt_0 : decode cX3_askAt 0 = .ok (.aload_n 0, 1) := by decide +kernel
theorem dX3_askAt_1 : decode cX3_askAt 1 = .ok (.getfield 21, 3) := by decide +kernel
theorem dX3_askAt_4 : decode cX3_askAt 4 = .ok (.iload_n 1, 1) := by decide +kernel
theorem dX3_askAt_5 : decode cX3_askAt 5 = .ok (.bipush 6, 2) := by decide +kernel
theorem dX3_askAt_7 : decode cX3_askAt 7 = .ok (.imul, 1) := by decide +kernel
theorem dX3_askAt_8 : decode cX3_askAt 8 = .ok (.iload_n 2, 1) := by decide +kernel
theorem dX3_askAt_9 : decode cX3_askAt 9 = .ok (.iadd, 1) := by decide +kernel
theorem dX3_askAt_10 : decode cX3_askAt 10 = .ok (.iaload, 1) := by decide +kernel
theorem dX3_askAt_11 : decode cX3_askAt 11 = .ok (.ireturn, 1) := by decide +kernel
theorem dX3_digestAt_0 : decode cX3_digestAt 0 = .ok (.aload_n 0, 1) := by decide +kernel
theorem dX3_digestAt_1 : decode cX3_digestAt 1 = .ok (.getfield 24, 3) := by decide +kernel
theorem dX3_digestAt_4 : decode cX3_digestAt 4 = .ok (.iload_n 1, 1) := by decide +kernel
theorem dX3_digestAt_5 : decode cX3_digestAt 5 = .ok (.laload, 1) := by decide +kernel
theorem dX3_digestAt_6 : decode cX3_digestAt 6 = .ok (.lreturn, 1) := by decide +kernel
theorem dX3_latest_0 : decode cX3_latest 0 = .ok (.aload_n 0, 1) := by decide +kernel
theorem dX3_latest_1 : decode cX3_latest 1 = .ok (.getfield 28, 3) := by decide +kernel
theorem dX3_latest_4 : decode cX3_latest 4 = .ok (.iload_n 1, 1) := by decide +kernel
theorem dX3_latest_5 : decode cX3_latest 5 = .ok (.iaload, 1) := by decide +kernel
theorem dX3_latest_6 : decode cX3_latest 6 = .ok (.ireturn, 1) := by decide +kernel
theorem dX3_isWrongBehind_0 : decode cX3_isWrongBehind 0 = .ok (.aload_n 0, 1) := by decide +kernel
theorem dX3_isWrongBehind_1 : decode cX3_isWrongBehind 1 = .ok (.getfield 38, 3) := by decide +kernel
theorem dX3_isWrongBehind_4 : decode cX3_isWrongBehind 4 = .ok (.iload_n 1, 1) := by decide +kernel
theorem dX3_isWrongBehind_5 : decode cX3_isWrongBehind 5 = .ok (.if_icmp .le 7, 3) := by decide +kernel
theorem dX3_isWrongBehind_8 : decode cX3_isWrongBehind 8 = .ok (.iconst 1, 1) := by decide +kernel
theorem dX3_isWrongBehind_9 : decode cX3_isWrongBehind 9 = .ok (.goto 4, 3) := by decide +kernel
theorem dX3_isWrongBehind_12 : decode cX3_isWrongBehind 12 = .ok (.iconst 0, 1) := by decide +kernel
theorem dX3_isWrongBehind_13 : decode cX3_isWrongBehind 13 = .ok (.ireturn, 1) := by decide +kernel
theorem dX3_lockHolder_0 : decode cX3_lockHolder 0 = .ok (.aload_n 0, 1) := by decide +kernel
theorem dX3_lockHolder_1 : decode cX3_lockHolder 1 = .ok (.getfield 41, 3) := by decide +kernel
theorem dX3_lockHolder_4 : decode cX3_lockHolder 4 = .ok (.iconst (-1), 1) := by decide +kernel
theorem dX3_lockHolder_5 : decode cX3_lockHolder 5 = .ok (.if_icmp .eq 28, 3) := by decide +kernel
theorem dX3_lockHolder_8 : decode cX3_lockHolder 8 = .ok (.aload_n 0, 1) := by decide +kernel
theorem dX3_lockHolder_9 : decode cX3_lockHolder 9 = .ok (.getfield 9, 3) := by decide +kernel
theorem dX3_lockHolder_12 : decode cX3_lockHolder 12 = .ok (.aload_n 0, 1) := by decide +kernel
theorem dX3_lockHolder_13 : decode cX3_lockHolder 13 = .ok (.getfield 41, 3) := by decide +kernel
theorem dX3_lockHolder_16 : decode cX3_lockHolder 16 = .ok (.iaload, 1) := by decide +kernel
theorem dX3_lockHolder_17 : decode cX3_lockHolder 17 = .ok (.iconst 2, 1) := by decide +kernel
theorem dX3_lockHolder_18 : decode cX3_lockHolder 18 = .ok (.if_icmp .ne 15, 3) := by decide +kernel
theorem dX3_lockHolder_21 : decode cX3_lockHolder 21 = .ok (.aload_n 0, 1) := by decide +kernel
theorem dX3_lockHolder_22 : decode cX3_lockHolder 22 = .ok (.getfield 15, 3) := by decide +kernel
theorem dX3_lockHolder_25 : decode cX3_lockHolder 25 = .ok (.aload_n 0, 1) := by decide +kernel
theorem dX3_lockHolder_26 : decode cX3_lockHolder 26 = .ok (.getfield 41, 3) := by decide +kernel
theorem dX3_lockHolder_29 : decode cX3_lockHolder 29 = .ok (.iaload, 1) := by decide +kernel
theorem dX3_lockHolder_30 : decode cX3_lockHolder 30 = .ok (.goto 4, 3) := by decide +kernel
theorem dX3_lockHolder_33 : decode cX3_lockHolder 33 = .ok (.iconst (-1), 1) := by decide +kernel
theorem dX3_lockHolder_34 : decode cX3_lockHolder 34 = .ok (.ireturn, 1) := by decide +kernel
theorem dX3_isToCopy_0 : decode cX3_isToCopy 0 = .ok (.aload_n 0, 1) := by decide +kernel
theorem dX3_isToCopy_1 : decode cX3_isToCopy 1 = .ok (.getfield 9, 3) := by decide +kernel
theorem dX3_isToCopy_4 : decode cX3_isToCopy 4 = .ok (.iload_n 1, 1) := by decide +kernel
theorem dX3_isToCopy_5 : decode cX3_isToCopy 5 = .ok (.iaload, 1) := by decide +kernel
theorem dX3_isToCopy_6 : decode cX3_isToCopy 6 = .ok (.iconst 1, 1) := by decide +kernel
theorem dX3_isToCopy_7 : decode cX3_isToCopy 7 = .ok (.if_icmp .ne 32, 3) := by decide +kernel
theorem dX3_isToCopy_10 : decode cX3_isToCopy 10 = .ok (.aload_n 0, 1) := by decide +kernel
theorem dX3_isToCopy_11 : decode cX3_isToCopy 11 = .ok (.getfield 28, 3) := by decide +kernel
theorem dX3_isToCopy_14 : decode cX3_isToCopy 14 = .ok (.aload_n 0, 1) := by decide +kernel
theorem dX3_isToCopy_15 : decode cX3_isToCopy 15 = .ok (.getfield 15, 3) := by decide +kernel
theorem dX3_isToCopy_18 : decode cX3_isToCopy 18 = .ok (.iload_n 1, 1) := by decide +kernel
theorem dX3_isToCopy_19 : decode cX3_isToCopy 19 = .ok (.iaload, 1) := by decide +kernel
theorem dX3_isToCopy_20 : decode cX3_isToCopy 20 = .ok (.iaload, 1) := by decide +kernel
theorem dX3_isToCopy_21 : decode cX3_isToCopy 21 = .ok (.iload_n 1, 1) := by decide +kernel
theorem dX3_isToCopy_22 : decode cX3_isToCopy 22 = .ok (.if_icmp .ne 15, 3) := by decide +kernel
theorem dX3_isToCopy_25 : decode cX3_isToCopy 25 = .ok (.aload_n 0, 1) := by decide +kernel
theorem dX3_isToCopy_26 : decode cX3_isToCopy 26 = .ok (.iload_n 1, 1) := by decide +kernel
theorem dX3_isToCopy_27 : decode cX3_isToCopy 27 = .ok (.invokevirtual 44, 3) := by decide +kernel
theorem dX3_isToCopy_30 : decode cX3_isToCopy 30 = .ok (.ifCond .ne 7, 3) := by decide +kernel
theorem dX3_isToCopy_33 : decode cX3_isToCopy 33 = .ok (.iconst 1, 1) := by decide +kernel
theorem dX3_isToCopy_34 : decode cX3_isToCopy 34 = .ok (.goto 4, 3) := by decide +kernel
theorem dX3_isToCopy_37 : decode cX3_isToCopy 37 = .ok (.iconst 0, 1) := by decide +kernel
theorem dX3_isToCopy_38 : decode cX3_isToCopy 38 = .ok (.ireturn, 1) := by decide +kernel
theorem dX3_isToCopy_39 : decode cX3_isToCopy 39 = .ok (.iload_n 1, 1) := by decide +kernel
theorem dX3_isToCopy_40 : decode cX3_isToCopy 40 = .ok (.aload_n 0, 1) := by decide +kernel
theorem dX3_isToCopy_41 : decode cX3_isToCopy 41 = .ok (.getfield 41, 3) := by decide +kernel
theorem dX3_isToCopy_44 : decode cX3_isToCopy 44 = .ok (.if_icmp .ne 7, 3) := by decide +kernel
theorem dX3_isToCopy_47 : decode cX3_isToCopy 47 = .ok (.iconst 1, 1) := by decide +kernel
theorem dX3_isToCopy_48 : decode cX3_isToCopy 48 = .ok (.goto 4, 3) := by decide +kernel
theorem dX3_isToCopy_51 : decode cX3_isToCopy 51 = .ok (.iconst 0, 1) := by decide +kernel
theorem dX3_isToCopy_52 : decode cX3_isToCopy 52 = .ok (.ireturn, 1) := by decide +kernel
theorem dX3_areKeys_0 : decode cX3_areKeys 0 = .ok (.iload_n 2, 1) := by decide +kernel
theorem dX3_areKeys_1 : decode cX3_areKeys 1 = .ok (.ifCond .lt 9, 3) := by decide +kernel
theorem dX3_areKeys_4 : decode cX3_areKeys 4 = .ok (.iload_n 2, 1) := by decide +kernel
theorem dX3_areKeys_5 : decode cX3_areKeys 5 = .ok (.bipush 6, 2) := by decide +kernel
theorem dX3_areKeys_7 : decode cX3_areKeys 7 = .ok (.if_icmp .le 5, 3) := by decide +kernel
theorem dX3_areKeys_10 : decode cX3_areKeys 10 = .ok (.iconst 0, 1) := by decide +kernel
theorem dX3_areKeys_11 : decode cX3_areKeys 11 = .ok (.ireturn, 1) := by decide +kernel
theorem dX3_areKeys_12 : decode cX3_areKeys 12 = .ok (.iconst 0, 1) := by decide +kernel
theorem dX3_areKeys_13 : decode cX3_areKeys 13 = .ok (.istore_n 3, 1) := by decide +kernel
theorem dX3_areKeys_14 : decode cX3_areKeys 14 = .ok (.iload_n 3, 1) := by decide +kernel
theorem dX3_areKeys_15 : decode cX3_areKeys 15 = .ok (.iload_n 2, 1) := by decide +kernel
theorem dX3_areKeys_16 : decode cX3_areKeys 16 = .ok (.if_icmp .ge 22, 3) := by decide +kernel
theorem dX3_areKeys_19 : decode cX3_areKeys 19 = .ok (.aload_n 0, 1) := by decide +kernel
theorem dX3_areKeys_20 : decode cX3_areKeys 20 = .ok (.iload_n 1, 1) := by decide +kernel
theorem dX3_areKeys_21 : decode cX3_areKeys 21 = .ok (.iload_n 3, 1) := by decide +kernel
theorem dX3_areKeys_22 : decode cX3_areKeys 22 = .ok (.iadd, 1) := by decide +kernel
theorem dX3_areKeys_23 : decode cX3_areKeys 23 = .ok (.baload, 1) := by decide +kernel
theorem dX3_areKeys_24 : decode cX3_areKeys 24 = .ok (.invokestatic 81, 3) := by decide +kernel
theorem dX3_areKeys_27 : decode cX3_areKeys 27 = .ok (.ifCond .ne 5, 3) := by decide +kernel
theorem dX3_areKeys_30 : decode cX3_areKeys 30 = .ok (.iconst 0, 1) := by decide +kernel
theorem dX3_areKeys_31 : decode cX3_areKeys 31 = .ok (.ireturn, 1) := by decide +kernel
theorem dX3_areKeys_32 : decode cX3_areKeys 32 = .ok (.iinc 3 1, 3) := by decide +kernel
theorem dX3_areKeys_35 : decode cX3_areKeys 35 = .ok (.goto (-21), 3) := by decide +kernel
theorem dX3_areKeys_38 : decode cX3_areKeys 38 = .ok (.iconst 1, 1) := by decide +kernel
theorem dX3_areKeys_39 : decode cX3_areKeys 39 = .ok (.ireturn, 1) := by decide +kernel
theorem dX3_isRow_0 : decode cX3_isRow 0 = .ok (.aload_n 0, 1) := by decide +kernel
theorem dX3_isRow_1 : decode cX3_isRow 1 = .ok (.iload_n 1, 1) := by decide +kernel
theorem dX3_isRow_2 : decode cX3_isRow 2 = .ok (.baload, 1) := by decide +kernel
theorem dX3_isRow_3 : decode cX3_isRow 3 = .ok (.istore_n 3, 1) := by decide +kernel
theorem dX3_isRow_4 : decode cX3_isRow 4 = .ok (.aload_n 0, 1) := by decide +kernel
theorem dX3_isRow_5 : decode cX3_isRow 5 = .ok (.iload_n 1, 1) := by decide +kernel
theorem dX3_isRow_6 : decode cX3_isRow 6 = .ok (.iconst 1, 1) := by decide +kernel
theorem dX3_isRow_7 : decode cX3_isRow 7 = .ok (.iadd, 1) := by decide +kernel
theorem dX3_isRow_8 : decode cX3_isRow 8 = .ok (.baload, 1) := by decide +kernel
theorem dX3_isRow_9 : decode cX3_isRow 9 = .ok (.istore 4, 2) := by decide +kernel
theorem dX3_isRow_11 : decode cX3_isRow 11 = .ok (.aload_n 0, 1) := by decide +kernel
theorem dX3_isRow_12 : decode cX3_isRow 12 = .ok (.iload_n 1, 1) := by decide +kernel
theorem dX3_isRow_13 : decode cX3_isRow 13 = .ok (.iconst 2, 1) := by decide +kernel
theorem dX3_isRow_14 : decode cX3_isRow 14 = .ok (.iadd, 1) := by decide +kernel
theorem dX3_isRow_15 : decode cX3_isRow 15 = .ok (.baload, 1) := by decide +kernel
theorem dX3_isRow_16 : decode cX3_isRow 16 = .ok (.istore 5, 2) := by decide +kernel
theorem dX3_isRow_18 : decode cX3_isRow 18 = .ok (.iload_n 3, 1) := by decide +kernel
theorem dX3_isRow_19 : decode cX3_isRow 19 = .ok (.iconst 1, 1) := by decide +kernel
theorem dX3_isRow_20 : decode cX3_isRow 20 = .ok (.if_icmp .ne 25, 3) := by decide +kernel
theorem dX3_isRow_23 : decode cX3_isRow 23 = .ok (.iload 4, 2) := by decide +kernel
theorem dX3_isRow_25 : decode cX3_isRow 25 = .ok (.invokestatic 81, 3) := by decide +kernel
theorem dX3_isRow_28 : decode cX3_isRow 28 = .ok (.ifCond .eq 15, 3) := by decide +kernel
theorem dX3_isRow_31 : decode cX3_isRow 31 = .ok (.aload_n 0, 1) := by decide +kernel
theorem dX3_isRow_32 : decode cX3_isRow 32 = .ok (.iload_n 1, 1) := by decide +kernel
theorem dX3_isRow_33 : decode cX3_isRow 33 = .ok (.iconst 3, 1) := by decide +kernel
theorem dX3_isRow_34 : decode cX3_isRow 34 = .ok (.iadd, 1) := by decide +kernel
theorem dX3_isRow_35 : decode cX3_isRow 35 = .ok (.iload 5, 2) := by decide +kernel
theorem dX3_isRow_37 : decode cX3_isRow 37 = .ok (.invokestatic 84, 3) := by decide +kernel
theorem dX3_isRow_40 : decode cX3_isRow 40 = .ok (.ifCond .ne 30, 3) := by decide +kernel
theorem dX3_isRow_43 : decode cX3_isRow 43 = .ok (.iconst 0, 1) := by decide +kernel
theorem dX3_isRow_44 : decode cX3_isRow 44 = .ok (.ireturn, 1) := by decide +kernel
theorem dX3_isRow_45 : decode cX3_isRow 45 = .ok (.iload_n 3, 1) := by decide +kernel
theorem dX3_isRow_46 : decode cX3_isRow 46 = .ok (.iconst 2, 1) := by decide +kernel
theorem dX3_isRow_47 : decode cX3_isRow 47 = .ok (.if_icmp .eq 8, 3) := by decide +kernel
theorem dX3_isRow_50 : decode cX3_isRow 50 = .ok (.iload_n 3, 1) := by decide +kernel
theorem dX3_isRow_51 : decode cX3_isRow 51 = .ok (.iconst 3, 1) := by decide +kernel
theorem dX3_isRow_52 : decode cX3_isRow 52 = .ok (.if_icmp .ne 16, 3) := by decide +kernel
theorem dX3_isRow_55 : decode cX3_isRow 55 = .ok (.iload 4, 2) := by decide +kernel
theorem dX3_isRow_57 : decode cX3_isRow 57 = .ok (.invokestatic 87, 3) := by decide +kernel
theorem dX3_isRow_60 : decode cX3_isRow 60 = .ok (.ifCond .eq 8, 3) := by decide +kernel
theorem dX3_isRow_63 : decode cX3_isRow 63 = .ok (.iload 5, 2) := by decide +kernel
theorem dX3_isRow_65 : decode cX3_isRow 65 = .ok (.ifCond .eq 5, 3) := by decide +kernel
theorem dX3_isRow_68 : decode cX3_isRow 68 = .ok (.iconst 0, 1) := by decide +kernel
theorem dX3_isRow_69 : decode cX3_isRow 69 = .ok (.ireturn, 1) := by decide +kernel
theorem dX3_isRow_70 : decode cX3_isRow 70 = .ok (.aload_n 0, 1) := by decide +kernel
theorem dX3_isRow_71 : decode cX3_isRow 71 = .ok (.iload_n 1, 1) := by decide +kernel
theorem dX3_isRow_72 : decode cX3_isRow 72 = .ok (.bipush 28, 2) := by decide +kernel
theorem dX3_isRow_74 : decode cX3_isRow 74 = .ok (.iload_n 2, 1) := by decide +kernel
theorem dX3_isRow_75 : decode cX3_isRow 75 = .ok (.invokestatic 90, 3) := by decide +kernel
theorem dX3_isRow_78 : decode cX3_isRow 78 = .ok (.ireturn, 1) := by decide +kernel
theorem dX3_readRow_0 : decode cX3_readRow 0 = .ok (.aload_n 0, 1) := by decide +kernel
theorem dX3_readRow_1 : decode cX3_readRow 1 = .ok (.getfield 9, 3) := by decide +kernel
theorem dX3_readRow_4 : decode cX3_readRow 4 = .ok (.iload_n 3, 1) := by decide +kernel
theorem dX3_readRow_5 : decode cX3_readRow 5 = .ok (.aload_n 1, 1) := by decide +kernel
theorem dX3_readRow_6 : decode cX3_readRow 6 = .ok (.iload_n 2, 1) := by decide +kernel
theorem dX3_readRow_7 : decode cX3_readRow 7 = .ok (.baload, 1) := by decide +kernel
theorem dX3_readRow_8 : decode cX3_readRow 8 = .ok (.iastore, 1) := by decide +kernel
theorem dX3_readRow_9 : decode cX3_readRow 9 = .ok (.aload_n 0, 1) := by decide +kernel
theorem dX3_readRow_10 : decode cX3_readRow 10 = .ok (.getfield 15, 3) := by decide +kernel
theorem dX3_readRow_13 : decode cX3_readRow 13 = .ok (.iload_n 3, 1) := by decide +kernel
theorem dX3_readRow_14 : decode cX3_readRow 14 = .ok (.aload_n 1, 1) := by decide +kernel
theorem dX3_readRow_15 : decode cX3_readRow 15 = .ok (.iload_n 2, 1) := by decide +kernel
theorem dX3_readRow_16 : decode cX3_readRow 16 = .ok (.iconst 1, 1) := by decide +kernel
theorem dX3_readRow_17 : decode cX3_readRow 17 = .ok (.iadd, 1) := by decide +kernel
theorem dX3_readRow_18 : decode cX3_readRow 18 = .ok (.baload, 1) := by decide +kernel
theorem dX3_readRow_19 : decode cX3_readRow 19 = .ok (.iastore, 1) := by decide +kernel
theorem dX3_readRow_20 : decode cX3_readRow 20 = .ok (.aload_n 0, 1) := by decide +kernel
theorem dX3_readRow_21 : decode cX3_readRow 21 = .ok (.getfield 18, 3) := by decide +kernel
theorem dX3_readRow_24 : decode cX3_readRow 24 = .ok (.iload_n 3, 1) := by decide +kernel
theorem dX3_readRow_25 : decode cX3_readRow 25 = .ok (.aload_n 1, 1) := by decide +kernel
theorem dX3_readRow_26 : decode cX3_readRow 26 = .ok (.iload_n 2, 1) := by decide +kernel
theorem dX3_readRow_27 : decode cX3_readRow 27 = .ok (.iconst 2, 1) := by decide +kernel
theorem dX3_readRow_28 : decode cX3_readRow 28 = .ok (.iadd, 1) := by decide +kernel
theorem dX3_readRow_29 : decode cX3_readRow 29 = .ok (.baload, 1) := by decide +kernel
theorem dX3_readRow_30 : decode cX3_readRow 30 = .ok (.iastore, 1) := by decide +kernel
theorem dX3_readRow_31 : decode cX3_readRow 31 = .ok (.iconst 0, 1) := by decide +kernel
theorem dX3_readRow_32 : decode cX3_readRow 32 = .ok (.istore 4, 2) := by decide +kernel
theorem dX3_readRow_34 : decode cX3_readRow 34 = .ok (.iload 4, 2) := by decide +kernel
theorem dX3_readRow_36 : decode cX3_readRow 36 = .ok (.bipush 6, 2) := by decide +kernel
theorem dX3_readRow_38 : decode cX3_readRow 38 = .ok (.if_icmp .ge 29, 3) := by decide +kernel
theorem dX3_readRow_41 : decode cX3_readRow 41 = .ok (.aload_n 0, 1) := by decide +kernel
theorem dX3_readRow_42 : decode cX3_readRow 42 = .ok (.getfield 21, 3) := by decide +kernel
theorem dX3_readRow_45 : decode cX3_readRow 45 = .ok (.iload_n 3, 1) := by decide +kernel
theorem dX3_readRow_46 : decode cX3_readRow 46 = .ok (.bipush 6, 2) := by decide +kernel
theorem dX3_readRow_48 : decode cX3_readRow 48 = .ok (.imul, 1) := by decide +kernel
theorem dX3_readRow_49 : decode cX3_readRow 49 = .ok (.iload 4, 2) := by decide +kernel
theorem dX3_readRow_51 : decode cX3_readRow 51 = .ok (.iadd, 1) := by decide +kernel
theorem dX3_readRow_52 : decode cX3_readRow 52 = .ok (.aload_n 1, 1) := by decide +kernel
theorem dX3_readRow_53 : decode cX3_readRow 53 = .ok (.iload_n 2, 1) := by decide +kernel
theorem dX3_readRow_54 : decode cX3_readRow 54 = .ok (.iconst 3, 1) := by decide +kernel
theorem dX3_readRow_55 : decode cX3_readRow 55 = .ok (.iadd, 1) := by decide +kernel
theorem dX3_readRow_56 : decode cX3_readRow 56 = .ok (.iload 4, 2) := by decide +kernel
theorem dX3_readRow_58 : decode cX3_readRow 58 = .ok (.iadd, 1) := by decide +kernel
theorem dX3_readRow_59 : decode cX3_readRow 59 = .ok (.baload, 1) := by decide +kernel
theorem dX3_readRow_60 : decode cX3_readRow 60 = .ok (.iastore, 1) := by decide +kernel
theorem dX3_readRow_61 : decode cX3_readRow 61 = .ok (.iinc 4 1, 3) := by decide +kernel
theorem dX3_readRow_64 : decode cX3_readRow 64 = .ok (.goto (-30), 3) := by decide +kernel
theorem dX3_readRow_67 : decode cX3_readRow 67 = .ok (.aload_n 0, 1) := by decide +kernel
theorem dX3_readRow_68 : decode cX3_readRow 68 = .ok (.getfield 24, 3) := by decide +kernel
theorem dX3_readRow_71 : decode cX3_readRow 71 = .ok (.iload_n 3, 1) := by decide +kernel
theorem dX3_readRow_72 : decode cX3_readRow 72 = .ok (.aload_n 0, 1) := by decide +kernel
theorem dX3_readRow_73 : decode cX3_readRow 73 = .ok (.getfield 9, 3) := by decide +kernel
theorem dX3_readRow_76 : decode cX3_readRow 76 = .ok (.iload_n 3, 1) := by decide +kernel
theorem dX3_readRow_77 : decode cX3_readRow 77 = .ok (.iaload, 1) := by decide +kernel
theorem dX3_readRow_78 : decode cX3_readRow 78 = .ok (.iconst 1, 1) := by decide +kernel
theorem dX3_readRow_79 : decode cX3_readRow 79 = .ok (.if_icmp .ne 16, 3) := by decide +kernel
theorem dX3_readRow_82 : decode cX3_readRow 82 = .ok (.aload_n 1, 1) := by decide +kernel
theorem dX3_readRow_83 : decode cX3_readRow 83 = .ok (.iload_n 2, 1) := by decide +kernel
theorem dX3_readRow_84 : decode cX3_readRow 84 = .ok (.bipush 16, 2) := by decide +kernel
theorem dX3_readRow_86 : decode cX3_readRow 86 = .ok (.iadd, 1) := by decide +kernel
theorem dX3_readRow_87 : decode cX3_readRow 87 = .ok (.bipush 8, 2) := by decide +kernel
theorem dX3_readRow_89 : decode cX3_readRow 89 = .ok (.invokestatic 94, 3) := by decide +kernel
theorem dX3_readRow_92 : decode cX3_readRow 92 = .ok (.goto 4, 3) := by decide +kernel
theorem dX3_readRow_95 : decode cX3_readRow 95 = .ok (.lconst 0, 1) := by decide +kernel
theorem dX3_readRow_96 : decode cX3_readRow 96 = .ok (.lastore, 1) := by decide +kernel
theorem dX3_readRow_97 : decode cX3_readRow 97 = .ok (.return_, 1) := by decide +kernel
theorem dX3_read_0 : decode cX3_read 0 = .ok (.aload_n 0, 1) := by decide +kernel
theorem dX3_read_1 : decode cX3_read 1 = .ok (.iconst 0, 1) := by decide +kernel
theorem dX3_read_2 : decode cX3_read 2 = .ok (.putfield 31, 3) := by decide +kernel
theorem dX3_read_5 : decode cX3_read 5 = .ok (.iconst 0, 1) := by decide +kernel
theorem dX3_read_6 : decode cX3_read 6 = .ok (.istore_n 3, 1) := by decide +kernel
theorem dX3_read_7 : decode cX3_read 7 = .ok (.iload_n 3, 1) := by decide +kernel
theorem dX3_read_8 : decode cX3_read 8 = .ok (.aload_n 0, 1) := by decide +kernel
theorem dX3_read_9 : decode cX3_read 9 = .ok (.getfield 9, 3) := by decide +kernel
theorem dX3_read_12 : decode cX3_read 12 = .ok (.arraylength, 1) := by decide +kernel
theorem dX3_read_13 : decode cX3_read 13 = .ok (.if_icmp .ge 52, 3) := by decide +kernel
theorem dX3_read_16 : decode cX3_read 16 = .ok (.iload_n 2, 1) := by decide +kernel
theorem dX3_read_17 : decode cX3_read 17 = .ok (.iload_n 3, 1) := by decide +kernel
theorem dX3_read_18 : decode cX3_read 18 = .ok (.bipush 32, 2) := by decide +kernel
theorem dX3_read_20 : decode cX3_read 20 = .ok (.imul, 1) := by decide +kernel
theorem dX3_read_21 : decode cX3_read 21 = .ok (.iadd, 1) := by decide +kernel
theorem dX3_read_22 : decode cX3_read 22 = .ok (.istore 4, 2) := by decide +kernel
theorem dX3_read_24 : decode cX3_read 24 = .ok (.aload_n 1, 1) := by decide +kernel
theorem dX3_read_25 : decode cX3_read 25 = .ok (.iload 4, 2) := by decide +kernel
theorem dX3_read_27 : decode cX3_read 27 = .ok (.iload_n 3, 1) := by decide +kernel
theorem dX3_read_28 : decode cX3_read 28 = .ok (.invokestatic 51, 3) := by decide +kernel
theorem dX3_read_31 : decode cX3_read 31 = .ok (.ifCond .eq 21, 3) := by decide +kernel
theorem dX3_read_34 : decode cX3_read 34 = .ok (.aload_n 0, 1) := by decide +kernel
theorem dX3_read_35 : decode cX3_read 35 = .ok (.aload_n 1, 1) := by decide +kernel
theorem dX3_read_36 : decode cX3_read 36 = .ok (.iload 4, 2) := by decide +kernel
theorem dX3_read_38 : decode cX3_read 38 = .ok (.iload_n 3, 1) := by decide +kernel
theorem dX3_read_39 : decode cX3_read 39 = .ok (.invokevirtual 55, 3) := by decide +kernel
theorem dX3_read_42 : decode cX3_read 42 = .ok (.aload_n 0, 1) := by decide +kernel
theorem dX3_read_43 : decode cX3_read 43 = .ok (.iload_n 3, 1) := by decide +kernel
theorem dX3_read_44 : decode cX3_read 44 = .ok (.iconst 1, 1) := by decide +kernel
theorem dX3_read_45 : decode cX3_read 45 = .ok (.iadd, 1) := by decide +kernel
theorem dX3_read_46 : decode cX3_read 46 = .ok (.putfield 31, 3) := by decide +kernel
theorem dX3_read_49 : decode cX3_read 49 = .ok (.goto 10, 3) := by decide +kernel
theorem dX3_read_52 : decode cX3_read 52 = .ok (.aload_n 0, 1) := by decide +kernel
theorem dX3_read_53 : decode cX3_read 53 = .ok (.getfield 9, 3) := by decide +kernel
theorem dX3_read_56 : decode cX3_read 56 = .ok (.iload_n 3, 1) := by decide +kernel
theorem dX3_read_57 : decode cX3_read 57 = .ok (.iconst 0, 1) := by decide +kernel
theorem dX3_read_58 : decode cX3_read 58 = .ok (.iastore, 1) := by decide +kernel
theorem dX3_read_59 : decode cX3_read 59 = .ok (.iinc 3 1, 3) := by decide +kernel
theorem dX3_read_62 : decode cX3_read 62 = .ok (.goto (-55), 3) := by decide +kernel
theorem dX3_read_65 : decode cX3_read 65 = .ok (.aload_n 0, 1) := by decide +kernel
theorem dX3_read_66 : decode cX3_read 66 = .ok (.invokevirtual 48, 3) := by decide +kernel
theorem dX3_read_69 : decode cX3_read 69 = .ok (.return_, 1) := by decide +kernel
theorem dX3_append_0 : decode cX3_append 0 = .ok (.aload_n 0, 1) := by decide +kernel
theorem dX3_append_1 : decode cX3_append 1 = .ok (.getfield 31, 3) := by decide +kernel
theorem dX3_append_4 : decode cX3_append 4 = .ok (.istore 5, 2) := by decide +kernel
theorem dX3_append_6 : decode cX3_append 6 = .ok (.aload_n 0, 1) := by decide +kernel
theorem dX3_append_7 : decode cX3_append 7 = .ok (.getfield 9, 3) := by decide +kernel
theorem dX3_append_10 : decode cX3_append 10 = .ok (.iload 5, 2) := by decide +kernel
theorem dX3_append_12 : decode cX3_append 12 = .ok (.iload_n 1, 1) := by decide +kernel
theorem dX3_append_13 : decode cX3_append 13 = .ok (.iastore, 1) := by decide +kernel
theorem dX3_append_14 : decode cX3_append 14 = .ok (.aload_n 0, 1) := by decide +kernel
theorem dX3_append_15 : decode cX3_append 15 = .ok (.getfield 15, 3) := by decide +kernel
theorem dX3_append_18 : decode cX3_append 18 = .ok (.iload 5, 2) := by decide +kernel
theorem dX3_append_20 : decode cX3_append 20 = .ok (.iload_n 2, 1) := by decide +kernel
theorem dX3_append_21 : decode cX3_append 21 = .ok (.iastore, 1) := by decide +kernel
theorem dX3_append_22 : decode cX3_append 22 = .ok (.aload_n 0, 1) := by decide +kernel
theorem dX3_append_23 : decode cX3_append 23 = .ok (.getfield 18, 3) := by decide +kernel
theorem dX3_append_26 : decode cX3_append 26 = .ok (.iload 5, 2) := by decide +kernel
theorem dX3_append_28 : decode cX3_append 28 = .ok (.iconst 0, 1) := by decide +kernel
theorem dX3_append_29 : decode cX3_append 29 = .ok (.iastore, 1) := by decide +kernel
theorem dX3_append_30 : decode cX3_append 30 = .ok (.aload_n 0, 1) := by decide +kernel
theorem dX3_append_31 : decode cX3_append 31 = .ok (.getfield 24, 3) := by decide +kernel
theorem dX3_append_34 : decode cX3_append 34 = .ok (.iload 5, 2) := by decide +kernel
theorem dX3_append_36 : decode cX3_append 36 = .ok (.lload_n 3, 1) := by decide +kernel
theorem dX3_append_37 : decode cX3_append 37 = .ok (.lastore, 1) := by decide +kernel
theorem dX3_append_38 : decode cX3_append 38 = .ok (.aload_n 0, 1) := by decide +kernel
theorem dX3_append_39 : decode cX3_append 39 = .ok (.dup, 1) := by decide +kernel
theorem dX3_append_40 : decode cX3_append 40 = .ok (.getfield 31, 3) := by decide +kernel
theorem dX3_append_43 : decode cX3_append 43 = .ok (.iconst 1, 1) := by decide +kernel
theorem dX3_append_44 : decode cX3_append 44 = .ok (.iadd, 1) := by decide +kernel
theorem dX3_append_45 : decode cX3_append 45 = .ok (.putfield 31, 3) := by decide +kernel
theorem dX3_append_48 : decode cX3_append 48 = .ok (.aload_n 0, 1) := by decide +kernel
theorem dX3_append_49 : decode cX3_append 49 = .ok (.iload 5, 2) := by decide +kernel
theorem dX3_append_51 : decode cX3_append 51 = .ok (.invokevirtual 59, 3) := by decide +kernel
theorem dX3_append_54 : decode cX3_append 54 = .ok (.iload 5, 2) := by decide +kernel
theorem dX3_append_56 : decode cX3_append 56 = .ok (.ireturn, 1) := by decide +kernel
theorem dX3_addAsk_0 : decode cX3_addAsk 0 = .ok (.aload_n 0, 1) := by decide +kernel
theorem dX3_addAsk_1 : decode cX3_addAsk 1 = .ok (.getfield 21, 3) := by decide +kernel
theorem dX3_addAsk_4 : decode cX3_addAsk 4 = .ok (.iload_n 1, 1) := by decide +kernel
theorem dX3_addAsk_5 : decode cX3_addAsk 5 = .ok (.bipush 6, 2) := by decide +kernel
theorem dX3_addAsk_7 : decode cX3_addAsk 7 = .ok (.imul, 1) := by decide +kernel
theorem dX3_addAsk_8 : decode cX3_addAsk 8 = .ok (.aload_n 0, 1) := by decide +kernel
theorem dX3_addAsk_9 : decode cX3_addAsk 9 = .ok (.getfield 18, 3) := by decide +kernel
theorem dX3_addAsk_12 : decode cX3_addAsk 12 = .ok (.iload_n 1, 1) := by decide +kernel
theorem dX3_addAsk_13 : decode cX3_addAsk 13 = .ok (.iaload, 1) := by decide +kernel
theorem dX3_addAsk_14 : decode cX3_addAsk 14 = .ok (.iadd, 1) := by decide +kernel
theorem dX3_addAsk_15 : decode cX3_addAsk 15 = .ok (.iload_n 2, 1) := by decide +kernel
theorem dX3_addAsk_16 : decode cX3_addAsk 16 = .ok (.iastore, 1) := by decide +kernel
theorem dX3_addAsk_17 : decode cX3_addAsk 17 = .ok (.aload_n 0, 1) := by decide +kernel
theorem dX3_addAsk_18 : decode cX3_addAsk 18 = .ok (.getfield 18, 3) := by decide +kernel
theorem dX3_addAsk_21 : decode cX3_addAsk 21 = .ok (.iload_n 1, 1) := by decide +kernel
theorem dX3_addAsk_22 : decode cX3_addAsk 22 = .ok (.dup2, 1) := by decide +kernel
theorem dX3_addAsk_23 : decode cX3_addAsk 23 = .ok (.iaload, 1) := by decide +kernel
theorem dX3_addAsk_24 : decode cX3_addAsk 24 = .ok (.iconst 1, 1) := by decide +kernel
theorem dX3_addAsk_25 : decode cX3_addAsk 25 = .ok (.iadd, 1) := by decide +kernel
theorem dX3_addAsk_26 : decode cX3_addAsk 26 = .ok (.iastore, 1) := by decide +kernel
theorem dX3_addAsk_27 : decode cX3_addAsk 27 = .ok (.return_, 1) := by decide +kernel
theorem dX3_move_0 : decode cX3_move 0 = .ok (.aload_n 0, 1) := by decide +kernel
theorem dX3_move_1 : decode cX3_move 1 = .ok (.getfield 9, 3) := by decide +kernel
theorem dX3_move_4 : decode cX3_move 4 = .ok (.iload_n 2, 1) := by decide +kernel
theorem dX3_move_5 : decode cX3_move 5 = .ok (.aload_n 0, 1) := by decide +kernel
theorem dX3_move_6 : decode cX3_move 6 = .ok (.getfield 9, 3) := by decide +kernel
theorem dX3_move_9 : decode cX3_move 9 = .ok (.iload_n 1, 1) := by decide +kernel
theorem dX3_move_10 : decode cX3_move 10 = .ok (.iaload, 1) := by decide +kernel
theorem dX3_move_11 : decode cX3_move 11 = .ok (.iastore, 1) := by decide +kernel
theorem dX3_move_12 : decode cX3_move 12 = .ok (.aload_n 0, 1) := by decide +kernel
theorem dX3_move_13 : decode cX3_move 13 = .ok (.getfield 15, 3) := by decide +kernel
theorem dX3_move_16 : decode cX3_move 16 = .ok (.iload_n 2, 1) := by decide +kernel
theorem dX3_move_17 : decode cX3_move 17 = .ok (.aload_n 0, 1) := by decide +kernel
theorem dX3_move_18 : decode cX3_move 18 = .ok (.getfield 15, 3) := by decide +kernel
theorem dX3_move_21 : decode cX3_move 21 = .ok (.iload_n 1, 1) := by decide +kernel
theorem dX3_move_22 : decode cX3_move 22 = .ok (.iaload, 1) := by decide +kernel
theorem dX3_move_23 : decode cX3_move 23 = .ok (.iastore, 1) := by decide +kernel
theorem dX3_move_24 : decode cX3_move 24 = .ok (.aload_n 0, 1) := by decide +kernel
theorem dX3_move_25 : decode cX3_move 25 = .ok (.getfield 18, 3) := by decide +kernel
theorem dX3_move_28 : decode cX3_move 28 = .ok (.iload_n 2, 1) := by decide +kernel
theorem dX3_move_29 : decode cX3_move 29 = .ok (.aload_n 0, 1) := by decide +kernel
theorem dX3_move_30 : decode cX3_move 30 = .ok (.getfield 18, 3) := by decide +kernel
theorem dX3_move_33 : decode cX3_move 33 = .ok (.iload_n 1, 1) := by decide +kernel
theorem dX3_move_34 : decode cX3_move 34 = .ok (.iaload, 1) := by decide +kernel
theorem dX3_move_35 : decode cX3_move 35 = .ok (.iastore, 1) := by decide +kernel
theorem dX3_move_36 : decode cX3_move 36 = .ok (.iconst 0, 1) := by decide +kernel
theorem dX3_move_37 : decode cX3_move 37 = .ok (.istore_n 3, 1) := by decide +kernel
theorem dX3_move_38 : decode cX3_move 38 = .ok (.iload_n 3, 1) := by decide +kernel
theorem dX3_move_39 : decode cX3_move 39 = .ok (.bipush 6, 2) := by decide +kernel
theorem dX3_move_41 : decode cX3_move 41 = .ok (.if_icmp .ge 31, 3) := by decide +kernel
theorem dX3_move_44 : decode cX3_move 44 = .ok (.aload_n 0, 1) := by decide +kernel
theorem dX3_move_45 : decode cX3_move 45 = .ok (.getfield 21, 3) := by decide +kernel
theorem dX3_move_48 : decode cX3_move 48 = .ok (.iload_n 2, 1) := by decide +kernel
theorem dX3_move_49 : decode cX3_move 49 = .ok (.bipush 6, 2) := by decide +kernel
theorem dX3_move_51 : decode cX3_move 51 = .ok (.imul, 1) := by decide +kernel
theorem dX3_move_52 : decode cX3_move 52 = .ok (.iload_n 3, 1) := by decide +kernel
theorem dX3_move_53 : decode cX3_move 53 = .ok (.iadd, 1) := by decide +kernel
theorem dX3_move_54 : decode cX3_move 54 = .ok (.aload_n 0, 1) := by decide +kernel
theorem dX3_move_55 : decode cX3_move 55 = .ok (.getfield 21, 3) := by decide +kernel
theorem dX3_move_58 : decode cX3_move 58 = .ok (.iload_n 1, 1) := by decide +kernel
theorem dX3_move_59 : decode cX3_move 59 = .ok (.bipush 6, 2) := by decide +kernel
theorem dX3_move_61 : decode cX3_move 61 = .ok (.imul, 1) := by decide +kernel
theorem dX3_move_62 : decode cX3_move 62 = .ok (.iload_n 3, 1) := by decide +kernel
theorem dX3_move_63 : decode cX3_move 63 = .ok (.iadd, 1) := by decide +kernel
theorem dX3_move_64 : decode cX3_move 64 = .ok (.iaload, 1) := by decide +kernel
theorem dX3_move_65 : decode cX3_move 65 = .ok (.iastore, 1) := by decide +kernel
theorem dX3_move_66 : decode cX3_move 66 = .ok (.iinc 3 1, 3) := by decide +kernel
theorem dX3_move_69 : decode cX3_move 69 = .ok (.goto (-31), 3) := by decide +kernel
theorem dX3_move_72 : decode cX3_move 72 = .ok (.aload_n 0, 1) := by decide +kernel
theorem dX3_move_73 : decode cX3_move 73 = .ok (.getfield 24, 3) := by decide +kernel
theorem dX3_move_76 : decode cX3_move 76 = .ok (.iload_n 2, 1) := by decide +kernel
theorem dX3_move_77 : decode cX3_move 77 = .ok (.aload_n 0, 1) := by decide +kernel
theorem dX3_move_78 : decode cX3_move 78 = .ok (.getfield 24, 3) := by decide +kernel
theorem dX3_move_81 : decode cX3_move 81 = .ok (.iload_n 1, 1) := by decide +kernel
theorem dX3_move_82 : decode cX3_move 82 = .ok (.laload, 1) := by decide +kernel
theorem dX3_move_83 : decode cX3_move 83 = .ok (.lastore, 1) := by decide +kernel
theorem dX3_move_84 : decode cX3_move 84 = .ok (.return_, 1) := by decide +kernel
theorem dX3_keepOnly_0 : decode cX3_keepOnly 0 = .ok (.iconst 0, 1) := by decide +kernel
theorem dX3_keepOnly_1 : decode cX3_keepOnly 1 = .ok (.istore_n 3, 1) := by decide +kernel
theorem dX3_keepOnly_2 : decode cX3_keepOnly 2 = .ok (.iload_n 3, 1) := by decide +kernel
theorem dX3_keepOnly_3 : decode cX3_keepOnly 3 = .ok (.iload_n 2, 1) := by decide +kernel
theorem dX3_keepOnly_4 : decode cX3_keepOnly 4 = .ok (.if_icmp .ge 17, 3) := by decide +kernel
theorem dX3_keepOnly_7 : decode cX3_keepOnly 7 = .ok (.aload_n 0, 1) := by decide +kernel
theorem dX3_keepOnly_8 : decode cX3_keepOnly 8 = .ok (.aload_n 1, 1) := by decide +kernel
theorem dX3_keepOnly_9 : decode cX3_keepOnly 9 = .ok (.iload_n 3, 1) := by decide +kernel
theorem dX3_keepOnly_10 : decode cX3_keepOnly 10 = .ok (.iaload, 1) := by decide +kernel
theorem dX3_keepOnly_11 : decode cX3_keepOnly 11 = .ok (.iload_n 3, 1) := by decide +kernel
theorem dX3_keepOnly_12 : decode cX3_keepOnly 12 = .ok (.invokevirtual 63, 3) := by decide +kernel
theorem dX3_keepOnly_15 : decode cX3_keepOnly 15 = .ok (.iinc 3 1, 3) := by decide +kernel
theorem dX3_keepOnly_18 : decode cX3_keepOnly 18 = .ok (.goto (-16), 3) := by decide +kernel
theorem dX3_keepOnly_21 : decode cX3_keepOnly 21 = .ok (.aload_n 0, 1) := by decide +kernel
theorem dX3_keepOnly_22 : decode cX3_keepOnly 22 = .ok (.iload_n 2, 1) := by decide +kernel
theorem dX3_keepOnly_23 : decode cX3_keepOnly 23 = .ok (.putfield 31, 3) := by decide +kernel
theorem dX3_keepOnly_26 : decode cX3_keepOnly 26 = .ok (.aload_n 0, 1) := by decide +kernel
theorem dX3_keepOnly_27 : decode cX3_keepOnly 27 = .ok (.invokevirtual 48, 3) := by decide +kernel
theorem dX3_keepOnly_30 : decode cX3_keepOnly 30 = .ok (.return_, 1) := by decide +kernel
theorem dX3_write_0 : decode cX3_write 0 = .ok (.aload_n 0, 1) := by decide +kernel
theorem dX3_write_1 : decode cX3_write 1 = .ok (.getfield 18, 3) := by decide +kernel
theorem dX3_write_4 : decode cX3_write 4 = .ok (.iload_n 1, 1) := by decide +kernel
theorem dX3_write_5 : decode cX3_write 5 = .ok (.iaload, 1) := by decide +kernel
theorem dX3_write_6 : decode cX3_write 6 = .ok (.istore 5, 2) := by decide +kernel
theorem dX3_write_8 : decode cX3_write 8 = .ok (.iconst 0, 1) := by decide +kernel
theorem dX3_write_9 : decode cX3_write 9 = .ok (.istore 6, 2) := by decide +kernel
theorem dX3_write_11 : decode cX3_write 11 = .ok (.iload 6, 2) := by decide +kernel
theorem dX3_write_13 : decode cX3_write 13 = .ok (.bipush 32, 2) := by decide +kernel
theorem dX3_write_15 : decode cX3_write 15 = .ok (.if_icmp .ge 16, 3) := by decide +kernel
theorem dX3_write_18 : decode cX3_write 18 = .ok (.aload_n 2, 1) := by decide +kernel
theorem dX3_write_19 : decode cX3_write 19 = .ok (.iload_n 3, 1) := by decide +kernel
theorem dX3_write_20 : decode cX3_write 20 = .ok (.iload 6, 2) := by decide +kernel
theorem dX3_write_22 : decode cX3_write 22 = .ok (.iadd, 1) := by decide +kernel
theorem dX3_write_23 : decode cX3_write 23 = .ok (.iconst 0, 1) := by decide +kernel
theorem dX3_write_24 : decode cX3_write 24 = .ok (.bastore, 1) := by decide +kernel
theorem dX3_write_25 : decode cX3_write 25 = .ok (.iinc 6 1, 3) := by decide +kernel
theorem dX3_write_28 : decode cX3_write 28 = .ok (.goto (-17), 3) := by decide +kernel
theorem dX3_write_31 : decode cX3_write 31 = .ok (.aload_n 2, 1) := by decide +kernel
theorem dX3_write_32 : decode cX3_write 32 = .ok (.iload_n 3, 1) := by decide +kernel
theorem dX3_write_33 : decode cX3_write 33 = .ok (.aload_n 0, 1) := by decide +kernel
theorem dX3_write_34 : decode cX3_write 34 = .ok (.getfield 9, 3) := by decide +kernel
theorem dX3_write_37 : decode cX3_write 37 = .ok (.iload_n 1, 1) := by decide +kernel
theorem dX3_write_38 : decode cX3_write 38 = .ok (.iaload, 1) := by decide +kernel
theorem dX3_write_39 : decode cX3_write 39 = .ok (.i2b, 1) := by decide +kernel
theorem dX3_write_40 : decode cX3_write 40 = .ok (.bastore, 1) := by decide +kernel
theorem dX3_write_41 : decode cX3_write 41 = .ok (.aload_n 2, 1) := by decide +kernel
theorem dX3_write_42 : decode cX3_write 42 = .ok (.iload_n 3, 1) := by decide +kernel
theorem dX3_write_43 : decode cX3_write 43 = .ok (.iconst 1, 1) := by decide +kernel
theorem dX3_write_44 : decode cX3_write 44 = .ok (.iadd, 1) := by decide +kernel
theorem dX3_write_45 : decode cX3_write 45 = .ok (.aload_n 0, 1) := by decide +kernel
theorem dX3_write_46 : decode cX3_write 46 = .ok (.getfield 15, 3) := by decide +kernel
theorem dX3_write_49 : decode cX3_write 49 = .ok (.iload_n 1, 1) := by decide +kernel
theorem dX3_write_50 : decode cX3_write 50 = .ok (.iaload, 1) := by decide +kernel
theorem dX3_write_51 : decode cX3_write 51 = .ok (.i2b, 1) := by decide +kernel
theorem dX3_write_52 : decode cX3_write 52 = .ok (.bastore, 1) := by decide +kernel
theorem dX3_write_53 : decode cX3_write 53 = .ok (.aload_n 2, 1) := by decide +kernel
theorem dX3_write_54 : decode cX3_write 54 = .ok (.iload_n 3, 1) := by decide +kernel
theorem dX3_write_55 : decode cX3_write 55 = .ok (.iconst 2, 1) := by decide +kernel
theorem dX3_write_56 : decode cX3_write 56 = .ok (.iadd, 1) := by decide +kernel
theorem dX3_write_57 : decode cX3_write 57 = .ok (.iload 5, 2) := by decide +kernel
theorem dX3_write_59 : decode cX3_write 59 = .ok (.i2b, 1) := by decide +kernel
theorem dX3_write_60 : decode cX3_write 60 = .ok (.bastore, 1) := by decide +kernel
theorem dX3_write_61 : decode cX3_write 61 = .ok (.iconst 0, 1) := by decide +kernel
theorem dX3_write_62 : decode cX3_write 62 = .ok (.istore 6, 2) := by decide +kernel
theorem dX3_write_64 : decode cX3_write 64 = .ok (.iload 6, 2) := by decide +kernel
theorem dX3_write_66 : decode cX3_write 66 = .ok (.iload 5, 2) := by decide +kernel
theorem dX3_write_68 : decode cX3_write 68 = .ok (.if_icmp .ge 25, 3) := by decide +kernel
theorem dX3_write_71 : decode cX3_write 71 = .ok (.aload_n 2, 1) := by decide +kernel
theorem dX3_write_72 : decode cX3_write 72 = .ok (.iload_n 3, 1) := by decide +kernel
theorem dX3_write_73 : decode cX3_write 73 = .ok (.iconst 3, 1) := by decide +kernel
theorem dX3_write_74 : decode cX3_write 74 = .ok (.iadd, 1) := by decide +kernel
theorem dX3_write_75 : decode cX3_write 75 = .ok (.iload 6, 2) := by decide +kernel
theorem dX3_write_77 : decode cX3_write 77 = .ok (.iadd, 1) := by decide +kernel
theorem dX3_write_78 : decode cX3_write 78 = .ok (.aload_n 0, 1) := by decide +kernel
theorem dX3_write_79 : decode cX3_write 79 = .ok (.iload_n 1, 1) := by decide +kernel
theorem dX3_write_80 : decode cX3_write 80 = .ok (.iload 6, 2) := by decide +kernel
theorem dX3_write_82 : decode cX3_write 82 = .ok (.invokevirtual 67, 3) := by decide +kernel
theorem dX3_write_85 : decode cX3_write 85 = .ok (.i2b, 1) := by decide +kernel
theorem dX3_write_86 : decode cX3_write 86 = .ok (.bastore, 1) := by decide +kernel
theorem dX3_write_87 : decode cX3_write 87 = .ok (.iinc 6 1, 3) := by decide +kernel
theorem dX3_write_90 : decode cX3_write 90 = .ok (.goto (-26), 3) := by decide +kernel
theorem dX3_write_93 : decode cX3_write 93 = .ok (.aload_n 2, 1) := by decide +kernel
theorem dX3_write_94 : decode cX3_write 94 = .ok (.iload_n 3, 1) := by decide +kernel
theorem dX3_write_95 : decode cX3_write 95 = .ok (.bipush 16, 2) := by decide +kernel
theorem dX3_write_97 : decode cX3_write 97 = .ok (.iadd, 1) := by decide +kernel
theorem dX3_write_98 : decode cX3_write 98 = .ok (.bipush 8, 2) := by decide +kernel
theorem dX3_write_100 : decode cX3_write 100 = .ok (.aload_n 0, 1) := by decide +kernel
theorem dX3_write_101 : decode cX3_write 101 = .ok (.getfield 24, 3) := by decide +kernel
theorem dX3_write_104 : decode cX3_write 104 = .ok (.iload_n 1, 1) := by decide +kernel
theorem dX3_write_105 : decode cX3_write 105 = .ok (.laload, 1) := by decide +kernel
theorem dX3_write_106 : decode cX3_write 106 = .ok (.invokestatic 71, 3) := by decide +kernel
theorem dX3_write_109 : decode cX3_write 109 = .ok (.aload_n 2, 1) := by decide +kernel
theorem dX3_write_110 : decode cX3_write 110 = .ok (.iload_n 3, 1) := by decide +kernel
theorem dX3_write_111 : decode cX3_write 111 = .ok (.bipush 28, 2) := by decide +kernel
theorem dX3_write_113 : decode cX3_write 113 = .ok (.iload 4, 2) := by decide +kernel
theorem dX3_write_115 : decode cX3_write 115 = .ok (.invokestatic 77, 3) := by decide +kernel
theorem dX3_write_118 : decode cX3_write 118 = .ok (.return_, 1) := by decide +kernel
theorem dX0_waiting_0 : decode cX0_waiting 0 = .ok (.aload_n 0, 1) := by decide +kernel
theorem dX0_waiting_1 : decode cX0_waiting 1 = .ok (.getfield 27, 3) := by decide +kernel
theorem dX0_waiting_4 : decode cX0_waiting 4 = .ok (.ireturn, 1) := by decide +kernel
theorem dX0_latestWrite_0 : decode cX0_latestWrite 0 = .ok (.aload_n 0, 1) := by decide +kernel
theorem dX0_latestWrite_1 : decode cX0_latestWrite 1 = .ok (.getfield 27, 3) := by decide +kernel
theorem dX0_latestWrite_4 : decode cX0_latestWrite 4 = .ok (.iconst 1, 1) := by decide +kernel
theorem dX0_latestWrite_5 : decode cX0_latestWrite 5 = .ok (.isub, 1) := by decide +kernel
theorem dX0_latestWrite_6 : decode cX0_latestWrite 6 = .ok (.istore_n 2, 1) := by decide +kernel
theorem dX0_latestWrite_7 : decode cX0_latestWrite 7 = .ok (.iload_n 2, 1) := by decide +kernel
theorem dX0_latestWrite_8 : decode cX0_latestWrite 8 = .ok (.ifCond .lt 21, 3) := by decide +kernel
theorem dX0_latestWrite_11 : decode cX0_latestWrite 11 = .ok (.aload_n 0, 1) := by decide +kernel
theorem dX0_latestWrite_12 : decode cX0_latestWrite 12 = .ok (.getfield 23, 3) := by decide +kernel
theorem dX0_latestWrite_15 : decode cX0_latestWrite 15 = .ok (.iload_n 2, 1) := by decide +kernel
theorem dX0_latestWrite_16 : decode cX0_latestWrite 16 = .ok (.iaload, 1) := by decide +kernel
theorem dX0_latestWrite_17 : decode cX0_latestWrite 17 = .ok (.iload_n 1, 1) := by decide +kernel
theorem dX0_latestWrite_18 : decode cX0_latestWrite 18 = .ok (.if_icmp .ne 5, 3) := by decide +kernel
theorem dX0_latestWrite_21 : decode cX0_latestWrite 21 = .ok (.iload_n 2, 1) := by decide +kernel
theorem dX0_latestWrite_22 : decode cX0_latestWrite 22 = .ok (.ireturn, 1) := by decide +kernel
theorem dX0_latestWrite_23 : decode cX0_latestWrite 23 = .ok (.iinc 2 (-1), 3) := by decide +kernel
theorem dX0_latestWrite_26 : decode cX0_latestWrite 26 = .ok (.goto (-19), 3) := by decide +kernel
theorem dX0_latestWrite_29 : decode cX0_latestWrite 29 = .ok (.iconst (-1), 1) := by decide +kernel
theorem dX0_latestWrite_30 : decode cX0_latestWrite 30 = .ok (.ireturn, 1) := by decide +kernel
theorem dX0_waitAsItWillBe_0 : decode cX0_waitAsItWillBe 0 = .ok (.aload_n 0, 1) := by decide +kernel
theorem dX0_waitAsItWillBe_1 : decode cX0_waitAsItWillBe 1 = .ok (.getfield 27, 3) := by decide +kernel
theorem dX0_waitAsItWillBe_4 : decode cX0_waitAsItWillBe 4 = .ok (.bipush 64, 2) := by decide +kernel
theorem dX0_waitAsItWillBe_6 : decode cX0_waitAsItWillBe 6 = .ok (.if_icmp .lt 11, 3) := by decide +kernel
theorem dX0_waitAsItWillBe_9 : decode cX0_waitAsItWillBe 9 = .ok (.aload_n 0, 1) := by decide +kernel
theorem dX0_waitAsItWillBe_10 : decode cX0_waitAsItWillBe 10 = .ok (.bipush 64, 2) := by decide +kernel
theorem dX0_waitAsItWillBe_12 : decode cX0_waitAsItWillBe 12 = .ok (.iconst 0, 1) := by decide +kernel
theorem dX0_waitAsItWillBe_13 : decode cX0_waitAsItWillBe 13 = .ok (.invokevirtual 30, 3) := by decide +kernel
theorem dX0_waitAsItWillBe_16 : decode cX0_waitAsItWillBe 16 = .ok (.pop, 1) := by decide +kernel
theorem dX0_waitAsItWillBe_17 : decode cX0_waitAsItWillBe 17 = .ok (.aload_n 0, 1) := by decide +kernel
theorem dX0_waitAsItWillBe_18 : decode cX0_waitAsItWillBe 18 = .ok (.getfield 27, 3) := by decide +kernel
theorem dX0_waitAsItWillBe_21 : decode cX0_waitAsItWillBe 21 = .ok (.sipush 512, 3) := by decide +kernel
theorem dX0_waitAsItWillBe_24 : decode cX0_waitAsItWillBe 24 = .ok (.imul, 1) := by decide +kernel
theorem dX0_waitAsItWillBe_25 : decode cX0_waitAsItWillBe 25 = .ok (.istore_n 2, 1) := by decide +kernel
theorem dX0_waitAsItWillBe_26 : decode cX0_waitAsItWillBe 26 = .ok (.aload_n 0, 1) := by decide +kernel
theorem dX0_waitAsItWillBe_27 : decode cX0_waitAsItWillBe 27 = .ok (.iload_n 1, 1) := by decide +kernel
theorem dX0_waitAsItWillBe_28 : decode cX0_waitAsItWillBe 28 = .ok (.invokevirtual 38, 3) := by decide +kernel
theorem dX0_waitAsItWillBe_31 : decode cX0_waitAsItWillBe 31 = .ok (.istore_n 3, 1) := by decide +kernel
theorem dX0_waitAsItWillBe_32 : decode cX0_waitAsItWillBe 32 = .ok (.iload_n 3, 1) := by decide +kernel
theorem dX0_waitAsItWillBe_33 : decode cX0_waitAsItWillBe 33 = .ok (.iconst (-1), 1) := by decide +kernel
theorem dX0_waitAsItWillBe_34 : decode cX0_waitAsItWillBe 34 = .ok (.if_icmp .ne 26, 3) := by decide +kernel
theorem dX0_waitAsItWillBe_37 : decode cX0_waitAsItWillBe 37 = .ok (.aload_n 0, 1) := by decide +kernel
theorem dX0_waitAsItWillBe_38 : decode cX0_waitAsItWillBe 38 = .ok (.getfield 15, 3) := by decide +kernel
theorem dX0_waitAsItWillBe_41 : decode cX0_waitAsItWillBe 41 = .ok (.iload_n 1, 1) := by decide +kernel
theorem dX0_waitAsItWillBe_42 : decode cX0_waitAsItWillBe 42 = .ok (.sipush 512, 3) := by decide +kernel
theorem dX0_waitAsItWillBe_45 : decode cX0_waitAsItWillBe 45 = .ok (.imul, 1) := by decide +kernel
theorem dX0_waitAsItWillBe_46 : decode cX0_waitAsItWillBe 46 = .ok (.aload_n 0, 1) := by decide +kernel
theorem dX0_waitAsItWillBe_47 : decode cX0_waitAsItWillBe 47 = .ok (.getfield 20, 3) := by decide +kernel
theorem dX0_waitAsItWillBe_50 : decode cX0_waitAsItWillBe 50 = .ok (.iload_n 2, 1) := by decide +kernel
theorem dX0_waitAsItWillBe_51 : decode cX0_waitAsItWillBe 51 = .ok (.sipush 512, 3) := by decide +kernel
theorem dX0_waitAsItWillBe_54 : decode cX0_waitAsItWillBe 54 = .ok (.invokestatic 41, 3) := by decide +kernel
theorem dX0_waitAsItWillBe_57 : decode cX0_waitAsItWillBe 57 = .ok (.goto 23, 3) := by decide +kernel
theorem dX0_waitAsItWillBe_60 : decode cX0_waitAsItWillBe 60 = .ok (.aload_n 0, 1) := by decide +kernel
theorem dX0_waitAsItWillBe_61 : decode cX0_waitAsItWillBe 61 = .ok (.getfield 20, 3) := by decide +kernel
theorem dX0_waitAsItWillBe_64 : decode cX0_waitAsItWillBe 64 = .ok (.iload_n 3, 1) := by decide +kernel
theorem dX0_waitAsItWillBe_65 : decode cX0_waitAsItWillBe 65 = .ok (.sipush 512, 3) := by decide +kernel
theorem dX0_waitAsItWillBe_68 : decode cX0_waitAsItWillBe 68 = .ok (.imul, 1) := by decide +kernel
theorem dX0_waitAsItWillBe_69 : decode cX0_waitAsItWillBe 69 = .ok (.aload_n 0, 1) := by decide +kernel
theorem dX0_waitAsItWillBe_70 : decode cX0_waitAsItWillBe 70 = .ok (.getfield 20, 3) := by decide +kernel
theorem dX0_waitAsItWillBe_73 : decode cX0_waitAsItWillBe 73 = .ok (.iload_n 2, 1) := by decide +kernel
theorem dX0_waitAsItWillBe_74 : decode cX0_waitAsItWillBe 74 = .ok (.sipush 512, 3) := by decide +kernel
theorem dX0_waitAsItWillBe_77 : decode cX0_waitAsItWillBe 77 = .ok (.invokestatic 41, 3) := by decide +kernel
theorem dX0_waitAsItWillBe_80 : decode cX0_waitAsItWillBe 80 = .ok (.aload_n 0, 1) := by decide +kernel
theorem dX0_waitAsItWillBe_81 : decode cX0_waitAsItWillBe 81 = .ok (.iload_n 1, 1) := by decide +kernel
theorem dX0_waitAsItWillBe_82 : decode cX0_waitAsItWillBe 82 = .ok (.invokevirtual 34, 3) := by decide +kernel
theorem dX0_waitAsItWillBe_85 : decode cX0_waitAsItWillBe 85 = .ok (.ireturn, 1) := by decide +kernel
theorem dX1_editionAt_0 : decode cX1_editionAt 0 = .ok (.aload_n 0, 1) := by decide +kernel
theorem dX1_editionAt_1 : decode cX1_editionAt 1 = .ok (.iload_n 1, 1) := by decide +kernel
theorem dX1_editionAt_2 : decode cX1_editionAt 2 = .ok (.sipush 512, 3) := by decide +kernel
theorem dX1_editionAt_5 : decode cX1_editionAt 5 = .ok (.imul, 1) := by decide +kernel
theorem dX1_editionAt_6 : decode cX1_editionAt 6 = .ok (.iconst 4, 1) := by decide +kernel
theorem dX1_editionAt_7 : decode cX1_editionAt 7 = .ok (.invokestatic 19, 3) := by decide +kernel
theorem dX1_editionAt_10 : decode cX1_editionAt 10 = .ok (.lreturn, 1) := by decide +kernel
theorem dX4_has_0 : decode cX4_has 0 = .ok (.aload_n 0, 1) := by decide +kernel
theorem dX4_has_1 : decode cX4_has 1 = .ok (.getfield 9, 3) := by decide +kernel
theorem dX4_has_4 : decode cX4_has 4 = .ok (.iload_n 1, 1) := by decide +kernel
theorem dX4_has_5 : decode cX4_has 5 = .ok (.baload, 1) := by decide +kernel
theorem dX4_has_6 : decode cX4_has 6 = .ok (.ireturn, 1) := by decide +kernel
theorem dX4_digestOf_0 : decode cX4_digestOf 0 = .ok (.aload_n 0, 1) := by decide +kernel
theorem dX4_digestOf_1 : decode cX4_digestOf 1 = .ok (.getfield 15, 3) := by decide +kernel
theorem dX4_digestOf_4 : decode cX4_digestOf 4 = .ok (.iload_n 1, 1) := by decide +kernel
theorem dX4_digestOf_5 : decode cX4_digestOf 5 = .ok (.laload, 1) := by decide +kernel
theorem dX4_digestOf_6 : decode cX4_digestOf 6 = .ok (.lreturn, 1) := by decide +kernel
theorem dX4_count_0 : decode cX4_count 0 = .ok (.iconst 0, 1) := by decide +kernel
theorem dX4_count_1 : decode cX4_count 1 = .ok (.istore_n 1, 1) := by decide +kernel
theorem dX4_count_2 : decode cX4_count 2 = .ok (.iconst 0, 1) := by decide +kernel
theorem dX4_count_3 : decode cX4_count 3 = .ok (.istore_n 2, 1) := by decide +kernel
theorem dX4_count_4 : decode cX4_count 4 = .ok (.iload_n 2, 1) := by decide +kernel
theorem dX4_count_5 : decode cX4_count 5 = .ok (.bipush 64, 2) := by decide +kernel
theorem dX4_count_7 : decode cX4_count 7 = .ok (.if_icmp .ge 21, 3) := by decide +kernel
theorem dX4_count_10 : decode cX4_count 10 = .ok (.aload_n 0, 1) := by decide +kernel
theorem dX4_count_11 : decode cX4_count 11 = .ok (.getfield 9, 3) := by decide +kernel
theorem dX4_count_14 : decode cX4_count 14 = .ok (.iload_n 2, 1) := by decide +kernel
theorem dX4_count_15 : decode cX4_count 15 = .ok (.baload, 1) := by decide +kernel
theorem dX4_count_16 : decode cX4_count 16 = .ok (.ifCond .eq 6, 3) := by decide +kernel
theorem dX4_count_19 : decode cX4_count 19 = .ok (.iinc 1 1, 3) := by decide +kernel
theorem dX4_count_22 : decode cX4_count 22 = .ok (.iinc 2 1, 3) := by decide +kernel
theorem dX4_count_25 : decode cX4_count 25 = .ok (.goto (-21), 3) := by decide +kernel
theorem dX4_count_28 : decode cX4_count 28 = .ok (.iload_n 1, 1) := by decide +kernel
theorem dX4_count_29 : decode cX4_count 29 = .ok (.ireturn, 1) := by decide +kernel
theorem dX4_put_0 : decode cX4_put 0 = .ok (.aload_n 0, 1) := by decide +kernel
theorem dX4_put_1 : decode cX4_put 1 = .ok (.getfield 9, 3) := by decide +kernel
theorem dX4_put_4 : decode cX4_put 4 = .ok (.iload_n 1, 1) := by decide +kernel
theorem dX4_put_5 : decode cX4_put 5 = .ok (.iconst 1, 1) := by decide +kernel
theorem dX4_put_6 : decode cX4_put 6 = .ok (.bastore, 1) := by decide +kernel
theorem dX4_put_7 : decode cX4_put 7 = .ok (.aload_n 0, 1) := by decide +kernel
theorem dX4_put_8 : decode cX4_put 8 = .ok (.getfield 15, 3) := by decide +kernel
theorem dX4_put_11 : decode cX4_put 11 = .ok (.iload_n 1, 1) := by decide +kernel
theorem dX4_put_12 : decode cX4_put 12 = .ok (.lload_n 2, 1) := by decide +kernel
theorem dX4_put_13 : decode cX4_put 13 = .ok (.lastore, 1) := by decide +kernel
theorem dX4_put_14 : decode cX4_put 14 = .ok (.return_, 1) := by decide +kernel
theorem dX4_forget_0 : decode cX4_forget 0 = .ok (.aload_n 0, 1) := by decide +kernel
theorem dX4_forget_1 : decode cX4_forget 1 = .ok (.getfield 9, 3) := by decide +kernel
theorem dX4_forget_4 : decode cX4_forget 4 = .ok (.iload_n 1, 1) := by decide +kernel
theorem dX4_forget_5 : decode cX4_forget 5 = .ok (.iconst 0, 1) := by decide +kernel
theorem dX4_forget_6 : decode cX4_forget 6 = .ok (.bastore, 1) := by decide +kernel
theorem dX4_forget_7 : decode cX4_forget 7 = .ok (.return_, 1) := by decide +kernel
theorem dX4_forgetAll_0 : decode cX4_forgetAll 0 = .ok (.iconst 0, 1) := by decide +kernel
theorem dX4_forgetAll_1 : decode cX4_forgetAll 1 = .ok (.istore_n 1, 1) := by decide +kernel
theorem dX4_forgetAll_2 : decode cX4_forgetAll 2 = .ok (.iload_n 1, 1) := by decide +kernel
theorem dX4_forgetAll_3 : decode cX4_forgetAll 3 = .ok (.bipush 64, 2) := by decide +kernel
theorem dX4_forgetAll_5 : decode cX4_forgetAll 5 = .ok (.if_icmp .ge 16, 3) := by decide +kernel
theorem dX4_forgetAll_8 : decode cX4_forgetAll 8 = .ok (.aload_n 0, 1) := by decide +kernel
theorem dX4_forgetAll_9 : decode cX4_forgetAll 9 = .ok (.getfield 9, 3) := by decide +kernel
theorem dX4_forgetAll_12 : decode cX4_forgetAll 12 = .ok (.iload_n 1, 1) := by decide +kernel
theorem dX4_forgetAll_13 : decode cX4_forgetAll 13 = .ok (.iconst 0, 1) := by decide +kernel
theorem dX4_forgetAll_14 : decode cX4_forgetAll 14 = .ok (.bastore, 1) := by decide +kernel
theorem dX4_forgetAll_15 : decode cX4_forgetAll 15 = .ok (.iinc 1 1, 3) := by decide +kernel
theorem dX4_forgetAll_18 : decode cX4_forgetAll 18 = .ok (.goto (-16), 3) := by decide +kernel
theorem dX4_forgetAll_21 : decode cX4_forgetAll 21 = .ok (.return_, 1) := by decide +kernel
theorem dX5_fitsEdition_0 : decode cX5_fitsEdition 0 = .ok (.lload_n 1, 1) := by decide +kernel
theorem dX5_fitsEdition_1 : decode cX5_fitsEdition 1 = .ok (.aload_n 0, 1) := by decide +kernel
theorem dX5_fitsEdition_2 : decode cX5_fitsEdition 2 = .ok (.getfield 52, 3) := by decide +kernel
theorem dX5_fitsEdition_5 : decode cX5_fitsEdition 5 = .ok (.i2l, 1) := by decide +kernel
theorem dX5_fitsEdition_6 : decode cX5_fitsEdition 6 = .ok (.lcmp, 1) := by decide +kernel
theorem dX5_fitsEdition_7 : decode cX5_fitsEdition 7 = .ok (.ifCond .eq 15, 3) := by decide +kernel
theorem dX5_fitsEdition_10 : decode cX5_fitsEdition 10 = .ok (.lload_n 1, 1) := by decide +kernel
theorem dX5_fitsEdition_11 : decode cX5_fitsEdition 11 = .ok (.aload_n 0, 1) := by decide +kernel
theorem dX5_fitsEdition_12 : decode cX5_fitsEdition 12 = .ok (.getfield 52, 3) := by decide +kernel
theorem dX5_fitsEdition_15 : decode cX5_fitsEdition 15 = .ok (.iconst 1, 1) := by decide +kernel
theorem dX5_fitsEdition_16 : decode cX5_fitsEdition 16 = .ok (.isub, 1) := by decide +kernel
theorem dX5_fitsEdition_17 : decode cX5_fitsEdition 17 = .ok (.i2l, 1) := by decide +kernel
theorem dX5_fitsEdition_18 : decode cX5_fitsEdition 18 = .ok (.lcmp, 1) := by decide +kernel
theorem dX5_fitsEdition_19 : decode cX5_fitsEdition 19 = .ok (.ifCond .ne 7, 3) := by decide +kernel
theorem dX5_fitsEdition_22 : decode cX5_fitsEdition 22 = .ok (.iconst 1, 1) := by decide +kernel
theorem dX5_fitsEdition_23 : decode cX5_fitsEdition 23 = .ok (.goto 4, 3) := by decide +kernel
theorem dX5_fitsEdition_26 : decode cX5_fitsEdition 26 = .ok (.iconst 0, 1) := by decide +kernel
theorem dX5_fitsEdition_27 : decode cX5_fitsEdition 27 = .ok (.ireturn, 1) := by decide +kernel
theorem dX5_writeRow_0 : decode cX5_writeRow 0 = .ok (.aload_n 0, 1) := by decide +kernel
theorem dX5_writeRow_1 : decode cX5_writeRow 1 = .ok (.getfield 27, 3) := by decide +kernel
theorem dX5_writeRow_4 : decode cX5_writeRow 4 = .ok (.aload_n 0, 1) := by decide +kernel
theorem dX5_writeRow_5 : decode cX5_writeRow 5 = .ok (.iload_n 2, 1) := by decide +kernel
theorem dX5_writeRow_6 : decode cX5_writeRow 6 = .ok (.invokevirtual 211, 3) := by decide +kernel
theorem dX5_writeRow_9 : decode cX5_writeRow 9 = .ok (.iload_n 3, 1) := by decide +kernel
theorem dX5_writeRow_10 : decode cX5_writeRow 10 = .ok (.bipush 16, 2) := by decide +kernel
theorem dX5_writeRow_12 : decode cX5_writeRow 12 = .ok (.idiv, 1) := by decide +kernel
theorem dX5_writeRow_13 : decode cX5_writeRow 13 = .ok (.iadd, 1) := by decide +kernel
theorem dX5_writeRow_14 : decode cX5_writeRow 14 = .ok (.invokevirtual 237, 3) := by decide +kernel
theorem dX5_writeRow_17 : decode cX5_writeRow 17 = .ok (.istore 4, 2) := by decide +kernel
theorem dX5_writeRow_19 : decode cX5_writeRow 19 = .ok (.aload_n 0, 1) := by decide +kernel
theorem dX5_writeRow_20 : decode cX5_writeRow 20 = .ok (.getfield 34, 3) := by decide +kernel
theorem dX5_writeRow_23 : decode cX5_writeRow 23 = .ok (.iload_n 1, 1) := by decide +kernel
theorem dX5_writeRow_24 : decode cX5_writeRow 24 = .ok (.aload_n 0, 1) := by decide +kernel
theorem dX5_writeRow_25 : decode cX5_writeRow 25 = .ok (.getfield 27, 3) := by decide +kernel
theorem dX5_writeRow_28 : decode cX5_writeRow 28 = .ok (.getfield 224, 3) := by decide +kernel
theorem dX5_writeRow_31 : decode cX5_writeRow 31 = .ok (.iload 4, 2) := by decide +kernel
theorem dX5_writeRow_33 : decode cX5_writeRow 33 = .ok (.iload_n 3, 1) := by decide +kernel
theorem dX5_writeRow_34 : decode cX5_writeRow 34 = .ok (.bipush 16, 2) := by decide +kernel
theorem dX5_writeRow_36 : decode cX5_writeRow 36 = .ok (.irem, 1) := by decide +kernel
theorem dX5_writeRow_37 : decode cX5_writeRow 37 = .ok (.bipush 32, 2) := by decide +kernel
theorem dX5_writeRow_39 : decode cX5_writeRow 39 = .ok (.imul, 1) := by decide +kernel
theorem dX5_writeRow_40 : decode cX5_writeRow 40 = .ok (.iadd, 1) := by decide +kernel
theorem dX5_writeRow_41 : decode cX5_writeRow 41 = .ok (.iload_n 3, 1) := by decide +kernel
theorem dX5_writeRow_42 : decode cX5_writeRow 42 = .ok (.invokevirtual 240, 3) := by decide +kernel
theorem dX5_writeRow_45 : decode cX5_writeRow 45 = .ok (.return_, 1) := by decide +kernel
theorem dX5_keep_0 : decode cX5_keep 0 = .ok (.aload_n 0, 1) := by decide +kernel
theorem dX5_keep_1 : decode cX5_keep 1 = .ok (.getfield 34, 3) := by decide +kernel
theorem dX5_keep_4 : decode cX5_keep 4 = .ok (.invokevirtual 231, 3) := by decide +kernel
theorem dX5_keep_7 : decode cX5_keep 7 = .ok (.ifCond .eq 5, 3) := by decide +kernel
theorem dX5_keep_10 : decode cX5_keep 10 = .ok (.iconst (-1), 1) := by decide +kernel
theorem dX5_keep_11 : decode cX5_keep 11 = .ok (.ireturn, 1) := by decide +kernel
theorem dX5_keep_12 : decode cX5_keep 12 = .ok (.aload_n 0, 1) := by decide +kernel
theorem dX5_keep_13 : decode cX5_keep 13 = .ok (.getfield 34, 3) := by decide +kernel
theorem dX5_keep_16 : decode cX5_keep 16 = .ok (.iload_n 1, 1) := by decide +kernel
theorem dX5_keep_17 : decode cX5_keep 17 = .ok (.iload_n 2, 1) := by decide +kernel
theorem dX5_keep_18 : decode cX5_keep 18 = .ok (.lload_n 3, 1) := by decide +kernel
theorem dX5_keep_19 : decode cX5_keep 19 = .ok (.invokevirtual 234, 3) := by decide +kernel
theorem dX5_keep_22 : decode cX5_keep 22 = .ok (.istore 5, 2) := by decide +kernel
theorem dX5_keep_24 : decode cX5_keep 24 = .ok (.aload_n 0, 1) := by decide +kernel
theorem dX5_keep_25 : decode cX5_keep 25 = .ok (.iload 5, 2) := by decide +kernel
theorem dX5_keep_27 : decode cX5_keep 27 = .ok (.aload_n 0, 1) := by decide +kernel
theorem dX5_keep_28 : decode cX5_keep 28 = .ok (.getfield 128, 3) := by decide +kernel
theorem dX5_keep_31 : decode cX5_keep 31 = .ok (.iload 5, 2) := by decide +kernel
theorem dX5_keep_33 : decode cX5_keep 33 = .ok (.invokevirtual 131, 3) := by decide +kernel
theorem dX5_keep_36 : decode cX5_keep 36 = .ok (.iload 5, 2) := by decide +kernel
theorem dX5_keep_38 : decode cX5_keep 38 = .ok (.ireturn, 1) := by decide +kernel
theorem dX5_allAskedAhead_0 : decode cX5_allAskedAhead 0 = .ok (.aload_n 0, 1) := by decide +kernel
theorem dX5_allAskedAhead_1 : decode cX5_allAskedAhead 1 = .ok (.getfield 34, 3) := by decide +kernel
theorem dX5_allAskedAhead_4 : decode cX5_allAskedAhead 4 = .ok (.iload_n 1, 1) := by decide +kernel
theorem dX5_allAskedAhead_5 : decode cX5_allAskedAhead 5 = .ok (.invokevirtual 121, 3) := by decide +kernel
theorem dX5_allAskedAhead_8 : decode cX5_allAskedAhead 8 = .ok (.istore_n 2, 1) := by decide +kernel
theorem dX5_allAskedAhead_9 : decode cX5_allAskedAhead 9 = .ok (.iconst 0, 1) := by decide +kernel
theorem dX5_allAskedAhead_10 : decode cX5_allAskedAhead 10 = .ok (.istore_n 3, 1) := by decide +kernel
theorem dX5_allAskedAhead_11 : decode cX5_allAskedAhead 11 = .ok (.iload_n 3, 1) := by decide +kernel
theorem dX5_allAskedAhead_12 : decode cX5_allAskedAhead 12 = .ok (.iload_n 2, 1) := by decide +kernel
theorem dX5_allAskedAhead_13 : decode cX5_allAskedAhead 13 = .ok (.if_icmp .ge 57, 3) := by decide +kernel
theorem dX5_allAskedAhead_16 : decode cX5_allAskedAhead 16 = .ok (.aload_n 0, 1) := by decide +kernel
theorem dX5_allAskedAhead_17 : decode cX5_allAskedAhead 17 = .ok (.getfield 34, 3) := by decide +kernel
theorem dX5_allAskedAhead_20 : decode cX5_allAskedAhead 20 = .ok (.iload_n 1, 1) := by decide +kernel
theorem dX5_allAskedAhead_21 : decode cX5_allAskedAhead 21 = .ok (.iload_n 3, 1) := by decide +kernel
theorem dX5_allAskedAhead_22 : decode cX5_allAskedAhead 22 = .ok (.invokevirtual 158, 3) := by decide +kernel
theorem dX5_allAskedAhead_25 : decode cX5_allAskedAhead 25 = .ok (.istore 4, 2) := by decide +kernel
theorem dX5_allAskedAhead_27 : decode cX5_allAskedAhead 27 = .ok (.aload_n 0, 1) := by decide +kernel
theorem dX5_allAskedAhead_28 : decode cX5_allAskedAhead 28 = .ok (.getfield 34, 3) := by decide +kernel
theorem dX5_allAskedAhead_31 : decode cX5_allAskedAhead 31 = .ok (.iload 4, 2) := by decide +kernel
theorem dX5_allAskedAhead_33 : decode cX5_allAskedAhead 33 = .ok (.invokevirtual 152, 3) := by decide +kernel
theorem dX5_allAskedAhead_36 : decode cX5_allAskedAhead 36 = .ok (.istore 5, 2) := by decide +kernel
theorem dX5_allAskedAhead_38 : decode cX5_allAskedAhead 38 = .ok (.iload 5, 2) := by decide +kernel
theorem dX5_allAskedAhead_40 : decode cX5_allAskedAhead 40 = .ok (.iconst (-1), 1) := by decide +kernel
theorem dX5_allAskedAhead_41 : decode cX5_allAskedAhead 41 = .ok (.if_icmp .eq 21, 3) := by decide +kernel
theorem dX5_allAskedAhead_44 : decode cX5_allAskedAhead 44 = .ok (.iload 5, 2) := by decide +kernel
theorem dX5_allAskedAhead_46 : decode cX5_allAskedAhead 46 = .ok (.iload_n 1, 1) := by decide +kernel
theorem dX5_allAskedAhead_47 : decode cX5_allAskedAhead 47 = .ok (.if_icmp .ge 15, 3) := by decide +kernel
theorem dX5_allAskedAhead_50 : decode cX5_allAskedAhead 50 = .ok (.aload_n 0, 1) := by decide +kernel
theorem dX5_allAskedAhead_51 : decode cX5_allAskedAhead 51 = .ok (.getfield 41, 3) := by decide +kernel
theorem dX5_allAskedAhead_54 : decode cX5_allAskedAhead 54 = .ok (.iload 4, 2) := by decide +kernel
theorem dX5_allAskedAhead_56 : decode cX5_allAskedAhead 56 = .ok (.invokevirtual 145, 3) := by decide +kernel
theorem dX5_allAskedAhead_59 : decode cX5_allAskedAhead 59 = .ok (.ifCond .eq 5, 3) := by decide +kernel
theorem dX5_allAskedAhead_62 : decode cX5_allAskedAhead 62 = .ok (.iconst 0, 1) := by decide +kernel
theorem dX5_allAskedAhead_63 : decode cX5_allAskedAhead 63 = .ok (.ireturn, 1) := by decide +kernel
theorem dX5_allAskedAhead_64 : decode cX5_allAskedAhead 64 = .ok (.iinc 3 1, 3) := by decide +kernel
theorem dX5_allAskedAhead_67 : decode cX5_allAskedAhead 67 = .ok (.goto (-56), 3) := by decide +kernel
theorem dX5_allAskedAhead_70 : decode cX5_allAskedAhead 70 = .ok (.iconst 1, 1) := by decide +kernel
theorem dX5_allAskedAhead_71 : decode cX5_allAskedAhead 71 = .ok (.ireturn, 1) := by decide +kernel
theorem dX5_beginEmpty_0 : decode cX5_beginEmpty 0 = .ok (.aload_n 0, 1) := by decide +kernel
theorem dX5_beginEmpty_1 : decode cX5_beginEmpty 1 = .ok (.iconst 0, 1) := by decide +kernel
theorem dX5_beginEmpty_2 : decode cX5_beginEmpty 2 = .ok (.putfield 195, 3) := by decide +kernel
theorem dX5_beginEmpty_5 : decode cX5_beginEmpty 5 = .ok (.aload_n 0, 1) := by decide +kernel
theorem dX5_beginEmpty_6 : decode cX5_beginEmpty 6 = .ok (.iconst 0, 1) := by decide +kernel
theorem dX5_beginEmpty_7 : decode cX5_beginEmpty 7 = .ok (.putfield 128, 3) := by decide +kernel
theorem dX5_beginEmpty_10 : decode cX5_beginEmpty 10 = .ok (.aload_n 0, 1) := by decide +kernel
theorem dX5_beginEmpty_11 : decode cX5_beginEmpty 11 = .ok (.getfield 34, 3) := by decide +kernel
theorem dX5_beginEmpty_14 : decode cX5_beginEmpty 14 = .ok (.invokevirtual 198, 3) := by decide +kernel
theorem dX5_beginEmpty_17 : decode cX5_beginEmpty 17 = .ok (.aload_n 0, 1) := by decide +kernel
theorem dX5_beginEmpty_18 : decode cX5_beginEmpty 18 = .ok (.iconst 0, 1) := by decide +kernel
theorem dX5_beginEmpty_19 : decode cX5_beginEmpty 19 = .ok (.invokevirtual 201, 3) := by decide +kernel
theorem dX5_beginEmpty_22 : decode cX5_beginEmpty 22 = .ok (.return_, 1) := by decide +kernel
theorem dX5_beginBy_0 : decode cX5_beginBy 0 = .ok (.aload_n 0, 1) := by decide +kernel
theorem dX5_beginBy_1 : decode cX5_beginBy 1 = .ok (.aload_n 0, 1) := by decide +kernel
theorem dX5_beginBy_2 : decode cX5_beginBy 2 = .ok (.getfield 27, 3) := by decide +kernel
theorem dX5_beginBy_5 : decode cX5_beginBy 5 = .ok (.getfield 59, 3) := by decide +kernel
theorem dX5_beginBy_8 : decode cX5_beginBy 8 = .ok (.iload_n 1, 1) := by decide +kernel
theorem dX5_beginBy_9 : decode cX5_beginBy 9 = .ok (.invokestatic 204, 3) := by decide +kernel
theorem dX5_beginBy_12 : decode cX5_beginBy 12 = .ok (.putfield 195, 3) := by decide +kernel
theorem dX5_beginBy_15 : decode cX5_beginBy 15 = .ok (.aload_n 0, 1) := by decide +kernel
theorem dX5_beginBy_16 : decode cX5_beginBy 16 = .ok (.aload_n 0, 1) := by decide +kernel
theorem dX5_beginBy_17 : decode cX5_beginBy 17 = .ok (.getfield 27, 3) := by decide +kernel
theorem dX5_beginBy_20 : decode cX5_beginBy 20 = .ok (.getfield 59, 3) := by decide +kernel
theorem dX5_beginBy_23 : decode cX5_beginBy 23 = .ok (.iload_n 1, 1) := by decide +kernel
theorem dX5_beginBy_24 : decode cX5_beginBy 24 = .ok (.invokestatic 208, 3) := by decide +kernel
theorem dX5_beginBy_27 : decode cX5_beginBy 27 = .ok (.putfield 128, 3) := by decide +kernel
theorem dX5_beginBy_30 : decode cX5_beginBy 30 = .ok (.aload_n 0, 1) := by decide +kernel
theorem dX5_beginBy_31 : decode cX5_beginBy 31 = .ok (.getfield 34, 3) := by decide +kernel
theorem dX5_beginBy_34 : decode cX5_beginBy 34 = .ok (.aload_n 0, 1) := by decide +kernel
theorem dX5_beginBy_35 : decode cX5_beginBy 35 = .ok (.getfield 27, 3) := by decide +kernel
theorem dX5_beginBy_38 : decode cX5_beginBy 38 = .ok (.getfield 59, 3) := by decide +kernel
theorem dX5_beginBy_41 : decode cX5_beginBy 41 = .ok (.aload_n 0, 1) := by decide +kernel
theorem dX5_beginBy_42 : decode cX5_beginBy 42 = .ok (.aload_n 0, 1) := by decide +kernel
theorem dX5_beginBy_43 : decode cX5_beginBy 43 = .ok (.getfield 128, 3) := by decide +kernel
theorem dX5_beginBy_46 : decode cX5_beginBy 46 = .ok (.invokevirtual 211, 3) := by decide +kernel
theorem dX5_beginBy_49 : decode cX5_beginBy 49 = .ok (.sipush 512, 3) := by decide +kernel
theorem dX5_beginBy_52 : decode cX5_beginBy 52 = .ok (.imul, 1) := by decide +kernel
theorem dX5_beginBy_53 : decode cX5_beginBy 53 = .ok (.invokevirtual 214, 3) := by decide +kernel
theorem dX5_beginBy_56 : decode cX5_beginBy 56 = .ok (.return_, 1) := by decide +kernel
theorem dX5_takePlace_0 : decode cX5_takePlace 0 = .ok (.aload_n 0, 1) := by decide +kernel
theorem dX5_takePlace_1 : decode cX5_takePlace 1 = .ok (.getfield 34, 3) := by decide +kernel
theorem dX5_takePlace_4 : decode cX5_takePlace 4 = .ok (.iload_n 1, 1) := by decide +kernel
theorem dX5_takePlace_5 : decode cX5_takePlace 5 = .ok (.invokevirtual 252, 3) := by decide +kernel
theorem dX5_takePlace_8 : decode cX5_takePlace 8 = .ok (.ifCond .eq 38, 3) := by decide +kernel
theorem dX5_takePlace_11 : decode cX5_takePlace 11 = .ok (.aload_n 0, 1) := by decide +kernel
theorem dX5_takePlace_12 : decode cX5_takePlace 12 = .ok (.iload_n 1, 1) := by decide +kernel
theorem dX5_takePlace_13 : decode cX5_takePlace 13 = .ok (.iconst 1, 1) := by decide +kernel
theorem dX5_takePlace_14 : decode cX5_takePlace 14 = .ok (.aload_n 0, 1) := by decide +kernel
theorem dX5_takePlace_15 : decode cX5_takePlace 15 = .ok (.getfield 128, 3) := by decide +kernel
theorem dX5_takePlace_18 : decode cX5_takePlace 18 = .ok (.isub, 1) := by decide +kernel
theorem dX5_takePlace_19 : decode cX5_takePlace 19 = .ok (.aload_n 0, 1) := by decide +kernel
theorem dX5_takePlace_20 : decode cX5_takePlace 20 = .ok (.getfield 243, 3) := by decide +kernel
theorem dX5_takePlace_23 : decode cX5_takePlace 23 = .ok (.invokevirtual 131, 3) := by decide +kernel
theorem dX5_takePlace_26 : decode cX5_takePlace 26 = .ok (.aload_n 0, 1) := by decide +kernel
theorem dX5_takePlace_27 : decode cX5_takePlace 27 = .ok (.getfield 45, 3) := by decide +kernel
theorem dX5_takePlace_30 : decode cX5_takePlace 30 = .ok (.aload_n 0, 1) := by decide +kernel
theorem dX5_takePlace_31 : decode cX5_takePlace 31 = .ok (.getfield 243, 3) := by decide +kernel
theorem dX5_takePlace_34 : decode cX5_takePlace 34 = .ok (.iload_n 1, 1) := by decide +kernel
theorem dX5_takePlace_35 : decode cX5_takePlace 35 = .ok (.iastore, 1) := by decide +kernel
theorem dX5_takePlace_36 : decode cX5_takePlace 36 = .ok (.aload_n 0, 1) := by decide +kernel
theorem dX5_takePlace_37 : decode cX5_takePlace 37 = .ok (.dup, 1) := by decide +kernel
theorem dX5_takePlace_38 : decode cX5_takePlace 38 = .ok (.getfield 243, 3) := by decide +kernel
theorem dX5_takePlace_41 : decode cX5_takePlace 41 = .ok (.iconst 1, 1) := by decide +kernel
theorem dX5_takePlace_42 : decode cX5_takePlace 42 = .ok (.iadd, 1) := by decide +kernel
theorem dX5_takePlace_43 : decode cX5_takePlace 43 = .ok (.putfield 243, 3) := by decide +kernel
theorem dX5_takePlace_46 : decode cX5_takePlace 46 = .ok (.aload_n 0, 1) := by decide +kernel
theorem dX5_takePlace_47 : decode cX5_takePlace 47 = .ok (.dup, 1) := by decide +kernel
theorem dX5_takePlace_48 : decode cX5_takePlace 48 = .ok (.getfield 49, 3) := by decide +kernel
theorem dX5_takePlace_51 : decode cX5_takePlace 51 = .ok (.iconst 1, 1) := by decide +kernel
theorem dX5_takePlace_52 : decode cX5_takePlace 52 = .ok (.iadd, 1) := by decide +kernel
theorem dX5_takePlace_53 : decode cX5_takePlace 53 = .ok (.putfield 49, 3) := by decide +kernel
theorem dX5_takePlace_56 : decode cX5_takePlace 56 = .ok (.return_, 1) := by decide +kernel
theorem dX5_endCompaction_0 : decode cX5_endCompaction 0 = .ok (.aload_n 0, 1) := by decide +kernel
theorem dX5_endCompaction_1 : decode cX5_endCompaction 1 = .ok (.iconst 1, 1) := by decide +kernel
theorem dX5_endCompaction_2 : decode cX5_endCompaction 2 = .ok (.aload_n 0, 1) := by decide +kernel
theorem dX5_endCompaction_3 : decode cX5_endCompaction 3 = .ok (.getfield 128, 3) := by decide +kernel
theorem dX5_endCompaction_6 : decode cX5_endCompaction 6 = .ok (.isub, 1) := by decide +kernel
theorem dX5_endCompaction_7 : decode cX5_endCompaction 7 = .ok (.putfield 128, 3) := by decide +kernel
theorem dX5_endCompaction_10 : decode cX5_endCompaction 10 = .ok (.aload_n 0, 1) := by decide +kernel
theorem dX5_endCompaction_11 : decode cX5_endCompaction 11 = .ok (.getfield 34, 3) := by decide +kernel
theorem dX5_endCompaction_14 : decode cX5_endCompaction 14 = .ok (.aload_n 0, 1) := by decide +kernel
theorem dX5_endCompaction_15 : decode cX5_endCompaction 15 = .ok (.getfield 45, 3) := by decide +kernel
theorem dX5_endCompaction_18 : decode cX5_endCompaction 18 = .ok (.aload_n 0, 1) := by decide +kernel
theorem dX5_endCompaction_19 : decode cX5_endCompaction 19 = .ok (.getfield 243, 3) := by decide +kernel
theorem dX5_endCompaction_22 : decode cX5_endCompaction 22 = .ok (.invokevirtual 255, 3) := by decide +kernel
theorem dX5_endCompaction_25 : decode cX5_endCompaction 25 = .ok (.aload_n 0, 1) := by decide +kernel
theorem dX5_endCompaction_26 : decode cX5_endCompaction 26 = .ok (.aload_n 0, 1) := by decide +kernel
theorem dX5_endCompaction_27 : decode cX5_endCompaction 27 = .ok (.getfield 243, 3) := by decide +kernel
theorem dX5_endCompaction_30 : decode cX5_endCompaction 30 = .ok (.putfield 96, 3) := by decide +kernel
theorem dX5_endCompaction_33 : decode cX5_endCompaction 33 = .ok (.aload_n 0, 1) := by decide +kernel
theorem dX5_endCompaction_34 : decode cX5_endCompaction 34 = .ok (.iconst (-1), 1) := by decide +kernel
theorem dX5_endCompaction_35 : decode cX5_endCompaction 35 = .ok (.putfield 49, 3) := by decide +kernel
theorem dX5_endCompaction_38 : decode cX5_endCompaction 38 = .ok (.aload_n 0, 1) := by decide +kernel
theorem dX5_endCompaction_39 : decode cX5_endCompaction 39 = .ok (.invokevirtual 99, 3) := by decide +kernel
theorem dX5_endCompaction_42 : decode cX5_endCompaction 42 = .ok (.return_, 1) := by decide +kernel
theorem dX5_doStep_0 : decode cX5_doStep 0 = .ok (.aload_n 0, 1) := by decide +kernel
theorem dX5_doStep_1 : decode cX5_doStep 1 = .ok (.getfield 49, 3) := by decide +kernel
theorem dX5_doStep_4 : decode cX5_doStep 4 = .ok (.iconst (-1), 1) := by decide +kernel
theorem dX5_doStep_5 : decode cX5_doStep 5 = .ok (.if_icmp .ne 25, 3) := by decide +kernel
theorem dX5_doStep_8 : decode cX5_doStep 8 = .ok (.aload_n 0, 1) := by decide +kernel
theorem dX5_doStep_9 : decode cX5_doStep 9 = .ok (.iconst 1, 1) := by decide +kernel
theorem dX5_doStep_10 : decode cX5_doStep 10 = .ok (.aload_n 0, 1) := by decide +kernel
theorem dX5_doStep_11 : decode cX5_doStep 11 = .ok (.getfield 128, 3) := by decide +kernel
theorem dX5_doStep_14 : decode cX5_doStep 14 = .ok (.isub, 1) := by decide +kernel
theorem dX5_doStep_15 : decode cX5_doStep 15 = .ok (.invokevirtual 201, 3) := by decide +kernel
theorem dX5_doStep_18 : decode cX5_doStep 18 = .ok (.aload_n 0, 1) := by decide +kernel
theorem dX5_doStep_19 : decode cX5_doStep 19 = .ok (.iconst 0, 1) := by decide +kernel
theorem dX5_doStep_20 : decode cX5_doStep 20 = .ok (.putfield 49, 3) := by decide +kernel
theorem dX5_doStep_23 : decode cX5_doStep 23 = .ok (.aload_n 0, 1) := by decide +kernel
theorem dX5_doStep_24 : decode cX5_doStep 24 = .ok (.iconst 0, 1) := by decide +kernel
theorem dX5_doStep_25 : decode cX5_doStep 25 = .ok (.putfield 243, 3) := by decide +kernel
theorem dX5_doStep_28 : decode cX5_doStep 28 = .ok (.iconst 0, 1) := by decide +kernel
theorem dX5_doStep_29 : decode cX5_doStep 29 = .ok (.ireturn, 1) := by decide +kernel
theorem dX5_doStep_30 : decode cX5_doStep 30 = .ok (.aload_n 0, 1) := by decide +kernel
theorem dX5_doStep_31 : decode cX5_doStep 31 = .ok (.getfield 49, 3) := by decide +kernel
theorem dX5_doStep_34 : decode cX5_doStep 34 = .ok (.aload_n 0, 1) := by decide +kernel
theorem dX5_doStep_35 : decode cX5_doStep 35 = .ok (.getfield 34, 3) := by decide +kernel
theorem dX5_doStep_38 : decode cX5_doStep 38 = .ok (.invokevirtual 93, 3) := by decide +kernel
theorem dX5_doStep_41 : decode cX5_doStep 41 = .ok (.if_icmp .ge 13, 3) := by decide +kernel
theorem dX5_doStep_44 : decode cX5_doStep 44 = .ok (.aload_n 0, 1) := by decide +kernel
theorem dX5_doStep_45 : decode cX5_doStep 45 = .ok (.aload_n 0, 1) := by decide +kernel
theorem dX5_doStep_46 : decode cX5_doStep 46 = .ok (.getfield 49, 3) := by decide +kernel
theorem dX5_doStep_49 : decode cX5_doStep 49 = .ok (.invokevirtual 246, 3) := by decide +kernel
theorem dX5_doStep_52 : decode cX5_doStep 52 = .ok (.iconst 0, 1) := by decide +kernel
theorem dX5_doStep_53 : decode cX5_doStep 53 = .ok (.ireturn, 1) := by decide +kernel
theorem dX5_doStep_54 : decode cX5_doStep 54 = .ok (.aload_n 0, 1) := by decide +kernel
theorem dX5_doStep_55 : decode cX5_doStep 55 = .ok (.invokevirtual 249, 3) := by decide +kernel
theorem dX5_doStep_58 : decode cX5_doStep 58 = .ok (.iconst 1, 1) := by decide +kernel
theorem dX5_doStep_59 : decode cX5_doStep 59 = .ok (.ireturn, 1) := by decide +kernel
theorem dX5_row_0 : decode cX5_row 0 = .ok (.iload_n 1, 1) := by decide +kernel
theorem dX5_row_1 : decode cX5_row 1 = .ok (.invokestatic 102, 3) := by decide +kernel
theorem dX5_row_4 : decode cX5_row 4 = .ok (.ifCond .ne 6, 3) := by decide +kernel
theorem dX5_row_7 : decode cX5_row 7 = .ok (.bipush (-2), 2) := by decide +kernel
theorem dX5_row_9 : decode cX5_row 9 = .ok (.ireturn, 1) := by decide +kernel
theorem dX5_row_10 : decode cX5_row 10 = .ok (.aload_n 0, 1) := by decide +kernel
theorem dX5_row_11 : decode cX5_row 11 = .ok (.getfield 55, 3) := by decide +kernel
theorem dX5_row_14 : decode cX5_row 14 = .ok (.ifCond .ne 6, 3) := by decide +kernel
theorem dX5_row_17 : decode cX5_row 17 = .ok (.bipush (-3), 2) := by decide +kernel
theorem dX5_row_19 : decode cX5_row 19 = .ok (.ireturn, 1) := by decide +kernel
theorem dX5_row_20 : decode cX5_row 20 = .ok (.aload_n 0, 1) := by decide +kernel
theorem dX5_row_21 : decode cX5_row 21 = .ok (.iconst 1, 1) := by decide +kernel
theorem dX5_row_22 : decode cX5_row 22 = .ok (.iload_n 1, 1) := by decide +kernel
theorem dX5_row_23 : decode cX5_row 23 = .ok (.lload_n 2, 1) := by decide +kernel
theorem dX5_row_24 : decode cX5_row 24 = .ok (.invokevirtual 106, 3) := by decide +kernel
theorem dX5_row_27 : decode cX5_row 27 = .ok (.istore 4, 2) := by decide +kernel
theorem dX5_row_29 : decode cX5_row 29 = .ok (.iload 4, 2) := by decide +kernel
theorem dX5_row_31 : decode cX5_row 31 = .ok (.iconst (-1), 1) := by decide +kernel
theorem dX5_row_32 : decode cX5_row 32 = .ok (.if_icmp .ne 15, 3) := by decide +kernel
theorem dX5_row_35 : decode cX5_row 35 = .ok (.aload_n 0, 1) := by decide +kernel
theorem dX5_row_36 : decode cX5_row 36 = .ok (.getfield 41, 3) := by decide +kernel
theorem dX5_row_39 : decode cX5_row 39 = .ok (.iload_n 1, 1) := by decide +kernel
theorem dX5_row_40 : decode cX5_row 40 = .ok (.lload_n 2, 1) := by decide +kernel
theorem dX5_row_41 : decode cX5_row 41 = .ok (.invokevirtual 110, 3) := by decide +kernel
theorem dX5_row_44 : decode cX5_row 44 = .ok (.bipush (-4), 2) := by decide +kernel
theorem dX5_row_46 : decode cX5_row 46 = .ok (.ireturn, 1) := by decide +kernel
theorem dX5_row_47 : decode cX5_row 47 = .ok (.aload_n 0, 1) := by decide +kernel
theorem dX5_row_48 : decode cX5_row 48 = .ok (.getfield 41, 3) := by decide +kernel
theorem dX5_row_51 : decode cX5_row 51 = .ok (.iload_n 1, 1) := by decide +kernel
theorem dX5_row_52 : decode cX5_row 52 = .ok (.invokevirtual 114, 3) := by decide +kernel
theorem dX5_row_55 : decode cX5_row 55 = .ok (.iload 4, 2) := by decide +kernel
theorem dX5_row_57 : decode cX5_row 57 = .ok (.ireturn, 1) := by decide +kernel
theorem dX5_asks_0 : decode cX5_asks 0 = .ok (.aload_n 0, 1) := by decide +kernel
theorem dX5_asks_1 : decode cX5_asks 1 = .ok (.getfield 55, 3) := by decide +kernel
theorem dX5_asks_4 : decode cX5_asks 4 = .ok (.ifCond .eq 15, 3) := by decide +kernel
theorem dX5_asks_7 : decode cX5_asks 7 = .ok (.aload_n 0, 1) := by decide +kernel
theorem dX5_asks_8 : decode cX5_asks 8 = .ok (.getfield 34, 3) := by decide +kernel
theorem dX5_asks_11 : decode cX5_asks 11 = .ok (.iload_n 1, 1) := by decide +kernel
theorem dX5_asks_12 : decode cX5_asks 12 = .ok (.invokevirtual 117, 3) := by decide +kernel
theorem dX5_asks_15 : decode cX5_asks 15 = .ok (.iconst 1, 1) := by decide +kernel
theorem dX5_asks_16 : decode cX5_asks 16 = .ok (.if_icmp .eq 5, 3) := by decide +kernel
theorem dX5_asks_19 : decode cX5_asks 19 = .ok (.iconst (-1), 1) := by decide +kernel
theorem dX5_asks_20 : decode cX5_asks 20 = .ok (.ireturn, 1) := by decide +kernel
theorem dX5_asks_21 : decode cX5_asks 21 = .ok (.iload_n 2, 1) := by decide +kernel
theorem dX5_asks_22 : decode cX5_asks 22 = .ok (.invokestatic 102, 3) := by decide +kernel
theorem dX5_asks_25 : decode cX5_asks 25 = .ok (.ifCond .ne 6, 3) := by decide +kernel
theorem dX5_asks_28 : decode cX5_asks 28 = .ok (.bipush (-2), 2) := by decide +kernel
theorem dX5_asks_30 : decode cX5_asks 30 = .ok (.ireturn, 1) := by decide +kernel
theorem dX5_asks_31 : decode cX5_asks 31 = .ok (.iload_n 1, 1) := by decide +kernel
theorem dX5_asks_32 : decode cX5_asks 32 = .ok (.aload_n 0, 1) := by decide +kernel
theorem dX5_asks_33 : decode cX5_asks 33 = .ok (.getfield 34, 3) := by decide +kernel
theorem dX5_asks_36 : decode cX5_asks 36 = .ok (.invokevirtual 93, 3) := by decide +kernel
theorem dX5_asks_39 : decode cX5_asks 39 = .ok (.iconst 1, 1) := by decide +kernel
theorem dX5_asks_40 : decode cX5_asks 40 = .ok (.isub, 1) := by decide +kernel
theorem dX5_asks_41 : decode cX5_asks 41 = .ok (.if_icmp .ne 19, 3) := by decide +kernel
theorem dX5_asks_44 : decode cX5_asks 44 = .ok (.iload_n 1, 1) := by decide +kernel
theorem dX5_asks_45 : decode cX5_asks 45 = .ok (.aload_n 0, 1) := by decide +kernel
theorem dX5_asks_46 : decode cX5_asks 46 = .ok (.getfield 96, 3) := by decide +kernel
theorem dX5_asks_49 : decode cX5_asks 49 = .ok (.if_icmp .lt 11, 3) := by decide +kernel
theorem dX5_asks_52 : decode cX5_asks 52 = .ok (.iload_n 1, 1) := by decide +kernel
theorem dX5_asks_53 : decode cX5_asks 53 = .ok (.aload_n 0, 1) := by decide +kernel
theorem dX5_asks_54 : decode cX5_asks 54 = .ok (.getfield 49, 3) := by decide +kernel
theorem dX5_asks_57 : decode cX5_asks 57 = .ok (.if_icmp .ge 6, 3) := by decide +kernel
theorem dX5_asks_60 : decode cX5_asks 60 = .ok (.bipush (-3), 2) := by decide +kernel
theorem dX5_asks_62 : decode cX5_asks 62 = .ok (.ireturn, 1) := by decide +kernel
theorem dX5_asks_63 : decode cX5_asks 63 = .ok (.aload_n 0, 1) := by decide +kernel
theorem dX5_asks_64 : decode cX5_asks 64 = .ok (.getfield 34, 3) := by decide +kernel
theorem dX5_asks_67 : decode cX5_asks 67 = .ok (.iload_n 1, 1) := by decide +kernel
theorem dX5_asks_68 : decode cX5_asks 68 = .ok (.invokevirtual 121, 3) := by decide +kernel
theorem dX5_asks_71 : decode cX5_asks 71 = .ok (.bipush 6, 2) := by decide +kernel
theorem dX5_asks_73 : decode cX5_asks 73 = .ok (.if_icmp .lt 6, 3) := by decide +kernel
theorem dX5_asks_76 : decode cX5_asks 76 = .ok (.bipush (-4), 2) := by decide +kernel
theorem dX5_asks_78 : decode cX5_asks 78 = .ok (.ireturn, 1) := by decide +kernel
theorem dX5_asks_79 : decode cX5_asks 79 = .ok (.aload_n 0, 1) := by decide +kernel
theorem dX5_asks_80 : decode cX5_asks 80 = .ok (.getfield 34, 3) := by decide +kernel
theorem dX5_asks_83 : decode cX5_asks 83 = .ok (.iload_n 1, 1) := by decide +kernel
theorem dX5_asks_84 : decode cX5_asks 84 = .ok (.iload_n 2, 1) := by decide +kernel
theorem dX5_asks_85 : decode cX5_asks 85 = .ok (.invokevirtual 124, 3) := by decide +kernel
theorem dX5_asks_88 : decode cX5_asks 88 = .ok (.aload_n 0, 1) := by decide +kernel
theorem dX5_asks_89 : decode cX5_asks 89 = .ok (.iload_n 1, 1) := by decide +kernel
theorem dX5_asks_90 : decode cX5_asks 90 = .ok (.aload_n 0, 1) := by decide +kernel
theorem dX5_asks_91 : decode cX5_asks 91 = .ok (.getfield 128, 3) := by decide +kernel
theorem dX5_asks_94 : decode cX5_asks 94 = .ok (.iload_n 1, 1) := by decide +kernel
theorem dX5_asks_95 : decode cX5_asks 95 = .ok (.invokevirtual 131, 3) := by decide +kernel
theorem dX5_asks_98 : decode cX5_asks 98 = .ok (.aload_n 0, 1) := by decide +kernel
theorem dX5_asks_99 : decode cX5_asks 99 = .ok (.getfield 34, 3) := by decide +kernel
theorem dX5_asks_102 : decode cX5_asks 102 = .ok (.iload_n 1, 1) := by decide +kernel
theorem dX5_asks_103 : decode cX5_asks 103 = .ok (.invokevirtual 121, 3) := by decide +kernel
theorem dX5_asks_106 : decode cX5_asks 106 = .ok (.ireturn, 1) := by decide +kernel
theorem dX5_sync_0 : decode cX5_sync 0 = .ok (.aload_n 0, 1) := by decide +kernel
theorem dX5_sync_1 : decode cX5_sync 1 = .ok (.getfield 55, 3) := by decide +kernel
theorem dX5_sync_4 : decode cX5_sync 4 = .ok (.ifCond .ne 6, 3) := by decide +kernel
theorem dX5_sync_7 : decode cX5_sync 7 = .ok (.bipush (-3), 2) := by decide +kernel
theorem dX5_sync_9 : decode cX5_sync 9 = .ok (.ireturn, 1) := by decide +kernel
theorem dX5_sync_10 : decode cX5_sync 10 = .ok (.aload_n 0, 1) := by decide +kernel
theorem dX5_sync_11 : decode cX5_sync 11 = .ok (.aload_n 0, 1) := by decide +kernel
theorem dX5_sync_12 : decode cX5_sync 12 = .ok (.getfield 34, 3) := by decide +kernel
theorem dX5_sync_15 : decode cX5_sync 15 = .ok (.invokevirtual 93, 3) := by decide +kernel
theorem dX5_sync_18 : decode cX5_sync 18 = .ok (.putfield 96, 3) := by decide +kernel
theorem dX5_sync_21 : decode cX5_sync 21 = .ok (.aload_n 0, 1) := by decide +kernel
theorem dX5_sync_22 : decode cX5_sync 22 = .ok (.getfield 27, 3) := by decide +kernel
theorem dX5_sync_25 : decode cX5_sync 25 = .ok (.bipush 64, 2) := by decide +kernel
theorem dX5_sync_27 : decode cX5_sync 27 = .ok (.iconst 0, 1) := by decide +kernel
theorem dX5_sync_28 : decode cX5_sync 28 = .ok (.invokevirtual 135, 3) := by decide +kernel
theorem dX5_sync_31 : decode cX5_sync 31 = .ok (.ireturn, 1) := by decide +kernel
theorem dX5_compact_0 : decode cX5_compact 0 = .ok (.iload_n 1, 1) := by decide +kernel
theorem dX5_compact_1 : decode cX5_compact 1 = .ok (.iconst 1, 1) := by decide +kernel
theorem dX5_compact_2 : decode cX5_compact 2 = .ok (.if_icmp .lt 10, 3) := by decide +kernel
theorem dX5_compact_5 : decode cX5_compact 5 = .ok (.iload_n 1, 1) := by decide +kernel
theorem dX5_compact_6 : decode cX5_compact 6 = .ok (.sipush 1000, 3) := by decide +kernel
theorem dX5_compact_9 : decode cX5_compact 9 = .ok (.if_icmp .le 6, 3) := by decide +kernel
theorem dX5_compact_12 : decode cX5_compact 12 = .ok (.bipush (-2), 2) := by decide +kernel
theorem dX5_compact_14 : decode cX5_compact 14 = .ok (.ireturn, 1) := by decide +kernel
theorem dX5_compact_15 : decode cX5_compact 15 = .ok (.aload_n 0, 1) := by decide +kernel
theorem dX5_compact_16 : decode cX5_compact 16 = .ok (.getfield 55, 3) := by decide +kernel
theorem dX5_compact_19 : decode cX5_compact 19 = .ok (.ifCond .ne 6, 3) := by decide +kernel
theorem dX5_compact_22 : decode cX5_compact 22 = .ok (.bipush (-3), 2) := by decide +kernel
theorem dX5_compact_24 : decode cX5_compact 24 = .ok (.ireturn, 1) := by decide +kernel
theorem dX5_compact_25 : decode cX5_compact 25 = .ok (.iconst 0, 1) := by decide +kernel
theorem dX5_compact_26 : decode cX5_compact 26 = .ok (.istore_n 2, 1) := by decide +kernel
theorem dX5_compact_27 : decode cX5_compact 27 = .ok (.iconst 0, 1) := by decide +kernel
theorem dX5_compact_28 : decode cX5_compact 28 = .ok (.istore_n 3, 1) := by decide +kernel
theorem dX5_compact_29 : decode cX5_compact 29 = .ok (.iload_n 2, 1) := by decide +kernel
theorem dX5_compact_30 : decode cX5_compact 30 = .ok (.iload_n 1, 1) := by decide +kernel
theorem dX5_compact_31 : decode cX5_compact 31 = .ok (.if_icmp .ge 18, 3) := by decide +kernel
theorem dX5_compact_34 : decode cX5_compact 34 = .ok (.iload_n 3, 1) := by decide +kernel
theorem dX5_compact_35 : decode cX5_compact 35 = .ok (.ifCond .ne 14, 3) := by decide +kernel
theorem dX5_compact_38 : decode cX5_compact 38 = .ok (.aload_n 0, 1) := by decide +kernel
theorem dX5_compact_39 : decode cX5_compact 39 = .ok (.invokevirtual 138, 3) := by decide +kernel
theorem dX5_compact_42 : decode cX5_compact 42 = .ok (.istore_n 3, 1) := by decide +kernel
theorem dX5_compact_43 : decode cX5_compact 43 = .ok (.iinc 2 1, 3) := by decide +kernel
theorem dX5_compact_46 : decode cX5_compact 46 = .ok (.goto (-17), 3) := by decide +kernel
theorem dX5_compact_49 : decode cX5_compact 49 = .ok (.iload_n 2, 1) := by decide +kernel
theorem dX5_compact_50 : decode cX5_compact 50 = .ok (.ireturn, 1) := by decide +kernel
theorem dX5_cut_0 : decode cX5_cut 0 = .ok (.aload_n 0, 1) := by decide +kernel
theorem dX5_cut_1 : decode cX5_cut 1 = .ok (.getfield 27, 3) := by decide +kernel
theorem dX5_cut_4 : decode cX5_cut 4 = .ok (.iload_n 1, 1) := by decide +kernel
theorem dX5_cut_5 : decode cX5_cut 5 = .ok (.iconst 0, 1) := by decide +kernel
theorem dX5_cut_6 : decode cX5_cut 6 = .ok (.invokestatic 9, 3) := by decide +kernel
theorem dX5_cut_9 : decode cX5_cut 9 = .ok (.iload_n 2, 1) := by decide +kernel
theorem dX5_cut_10 : decode cX5_cut 10 = .ok (.iconst 0, 1) := by decide +kernel
theorem dX5_cut_11 : decode cX5_cut 11 = .ok (.invokestatic 9, 3) := by decide +kernel
theorem dX5_cut_14 : decode cX5_cut 14 = .ok (.sipush 512, 3) := by decide +kernel
theorem dX5_cut_17 : decode cX5_cut 17 = .ok (.invokestatic 15, 3) := by decide +kernel
theorem dX5_cut_20 : decode cX5_cut 20 = .ok (.invokevirtual 135, 3) := by decide +kernel
theorem dX5_cut_23 : decode cX5_cut 23 = .ok (.pop, 1) := by decide +kernel
theorem dX5_cut_24 : decode cX5_cut 24 = .ok (.aload_n 0, 1) := by decide +kernel
theorem dX5_cut_25 : decode cX5_cut 25 = .ok (.iconst 0, 1) := by decide +kernel
theorem dX5_cut_26 : decode cX5_cut 26 = .ok (.putfield 55, 3) := by decide +kernel
theorem dX5_cut_29 : decode cX5_cut 29 = .ok (.aload_n 0, 1) := by decide +kernel
theorem dX5_cut_30 : decode cX5_cut 30 = .ok (.iconst (-1), 1) := by decide +kernel
theorem dX5_cut_31 : decode cX5_cut 31 = .ok (.putfield 49, 3) := by decide +kernel
theorem dX5_cut_34 : decode cX5_cut 34 = .ok (.aload_n 0, 1) := by decide +kernel
theorem dX5_cut_35 : decode cX5_cut 35 = .ok (.getfield 41, 3) := by decide +kernel
theorem dX5_cut_38 : decode cX5_cut 38 = .ok (.invokevirtual 142, 3) := by decide +kernel
theorem dX5_cut_41 : decode cX5_cut 41 = .ok (.return_, 1) := by decide +kernel
theorem dX5_digest_0 : decode cX5_digest 0 = .ok (.aload_n 0, 1) := by decide +kernel
theorem dX5_digest_1 : decode cX5_digest 1 = .ok (.getfield 55, 3) := by decide +kernel
theorem dX5_digest_4 : decode cX5_digest 4 = .ok (.ifCond .eq 10, 3) := by decide +kernel
theorem dX5_digest_7 : decode cX5_digest 7 = .ok (.iload_n 1, 1) := by decide +kernel
theorem dX5_digest_8 : decode cX5_digest 8 = .ok (.invokestatic 102, 3) := by decide +kernel
theorem dX5_digest_11 : decode cX5_digest 11 = .ok (.ifCond .ne 5, 3) := by decide +kernel
theorem dX5_digest_14 : decode cX5_digest 14 = .ok (.lconst 0, 1) := by decide +kernel
theorem dX5_digest_15 : decode cX5_digest 15 = .ok (.lreturn, 1) := by decide +kernel
theorem dX5_digest_16 : decode cX5_digest 16 = .ok (.aload_n 0, 1) := by decide +kernel
theorem dX5_digest_17 : decode cX5_digest 17 = .ok (.getfield 41, 3) := by decide +kernel
theorem dX5_digest_20 : decode cX5_digest 20 = .ok (.iload_n 1, 1) := by decide +kernel
theorem dX5_digest_21 : decode cX5_digest 21 = .ok (.invokevirtual 145, 3) := by decide +kernel
theorem dX5_digest_24 : decode cX5_digest 24 = .ok (.ifCond .eq 12, 3) := by decide +kernel
theorem dX5_digest_27 : decode cX5_digest 27 = .ok (.aload_n 0, 1) := by decide +kernel
theorem dX5_digest_28 : decode cX5_digest 28 = .ok (.getfield 41, 3) := by decide +kernel
theorem dX5_digest_31 : decode cX5_digest 31 = .ok (.iload_n 1, 1) := by decide +kernel
theorem dX5_digest_32 : decode cX5_digest 32 = .ok (.invokevirtual 148, 3) := by decide +kernel
theorem dX5_digest_35 : decode cX5_digest 35 = .ok (.lreturn, 1) := by decide +kernel
theorem dX5_digest_36 : decode cX5_digest 36 = .ok (.aload_n 0, 1) := by decide +kernel
theorem dX5_digest_37 : decode cX5_digest 37 = .ok (.getfield 34, 3) := by decide +kernel
theorem dX5_digest_40 : decode cX5_digest 40 = .ok (.iload_n 1, 1) := by decide +kernel
theorem dX5_digest_41 : decode cX5_digest 41 = .ok (.invokevirtual 152, 3) := by decide +kernel
theorem dX5_digest_44 : decode cX5_digest 44 = .ok (.istore_n 2, 1) := by decide +kernel
theorem dX5_digest_45 : decode cX5_digest 45 = .ok (.iload_n 2, 1) := by decide +kernel
theorem dX5_digest_46 : decode cX5_digest 46 = .ok (.iconst (-1), 1) := by decide +kernel
theorem dX5_digest_47 : decode cX5_digest 47 = .ok (.if_icmp .ne 7, 3) := by decide +kernel
theorem dX5_digest_50 : decode cX5_digest 50 = .ok (.lconst 0, 1) := by decide +kernel
theorem dX5_digest_51 : decode cX5_digest 51 = .ok (.goto 11, 3) := by decide +kernel
theorem dX5_digest_54 : decode cX5_digest 54 = .ok (.aload_n 0, 1) := by decide +kernel
theorem dX5_digest_55 : decode cX5_digest 55 = .ok (.getfield 34, 3) := by decide +kernel
theorem dX5_digest_58 : decode cX5_digest 58 = .ok (.iload_n 2, 1) := by decide +kernel
theorem dX5_digest_59 : decode cX5_digest 59 = .ok (.invokevirtual 155, 3) := by decide +kernel
theorem dX5_digest_62 : decode cX5_digest 62 = .ok (.lreturn, 1) := by decide +kernel
theorem dX5_asked_0 : decode cX5_asked 0 = .ok (.aload_n 0, 1) := by decide +kernel
theorem dX5_asked_1 : decode cX5_asked 1 = .ok (.getfield 55, 3) := by decide +kernel
theorem dX5_asked_4 : decode cX5_asked 4 = .ok (.ifCond .eq 21, 3) := by decide +kernel
theorem dX5_asked_7 : decode cX5_asked 7 = .ok (.iload_n 1, 1) := by decide +kernel
theorem dX5_asked_8 : decode cX5_asked 8 = .ok (.invokestatic 102, 3) := by decide +kernel
theorem dX5_asked_11 : decode cX5_asked 11 = .ok (.ifCond .eq 14, 3) := by decide +kernel
theorem dX5_asked_14 : decode cX5_asked 14 = .ok (.aload_n 0, 1) := by decide +kernel
theorem dX5_asked_15 : decode cX5_asked 15 = .ok (.getfield 41, 3) := by decide +kernel
theorem dX5_asked_18 : decode cX5_asked 18 = .ok (.iload_n 1, 1) := by decide +kernel
theorem dX5_asked_19 : decode cX5_asked 19 = .ok (.invokevirtual 145, 3) := by decide +kernel
theorem dX5_asked_22 : decode cX5_asked 22 = .ok (.ifCond .eq 5, 3) := by decide +kernel
theorem dX5_asked_25 : decode cX5_asked 25 = .ok (.iconst (-1), 1) := by decide +kernel
theorem dX5_asked_26 : decode cX5_asked 26 = .ok (.ireturn, 1) := by decide +kernel
theorem dX5_asked_27 : decode cX5_asked 27 = .ok (.aload_n 0, 1) := by decide +kernel
theorem dX5_asked_28 : decode cX5_asked 28 = .ok (.getfield 34, 3) := by decide +kernel
theorem dX5_asked_31 : decode cX5_asked 31 = .ok (.iload_n 1, 1) := by decide +kernel
theorem dX5_asked_32 : decode cX5_asked 32 = .ok (.invokevirtual 152, 3) := by decide +kernel
theorem dX5_asked_35 : decode cX5_asked 35 = .ok (.istore_n 3, 1) := by decide +kernel
theorem dX5_asked_36 : decode cX5_asked 36 = .ok (.iload_n 3, 1) := by decide +kernel
theorem dX5_asked_37 : decode cX5_asked 37 = .ok (.iconst (-1), 1) := by decide +kernel
theorem dX5_asked_38 : decode cX5_asked 38 = .ok (.if_icmp .eq 19, 3) := by decide +kernel
theorem dX5_asked_41 : decode cX5_asked 41 = .ok (.iload_n 2, 1) := by decide +kernel
theorem dX5_asked_42 : decode cX5_asked 42 = .ok (.ifCond .lt 15, 3) := by decide +kernel
theorem dX5_asked_45 : decode cX5_asked 45 = .ok (.iload_n 2, 1) := by decide +kernel
theorem dX5_asked_46 : decode cX5_asked 46 = .ok (.aload_n 0, 1) := by decide +kernel
theorem dX5_asked_47 : decode cX5_asked 47 = .ok (.getfield 34, 3) := by decide +kernel
theorem dX5_asked_50 : decode cX5_asked 50 = .ok (.iload_n 3, 1) := by decide +kernel
theorem dX5_asked_51 : decode cX5_asked 51 = .ok (.invokevirtual 121, 3) := by decide +kernel
theorem dX5_asked_54 : decode cX5_asked 54 = .ok (.if_icmp .lt 5, 3) := by decide +kernel
theorem dX5_asked_57 : decode cX5_asked 57 = .ok (.iconst (-1), 1) := by decide +kernel
theorem dX5_asked_58 : decode cX5_asked 58 = .ok (.ireturn, 1) := by decide +kernel
theorem dX5_asked_59 : decode cX5_asked 59 = .ok (.aload_n 0, 1) := by decide +kernel
theorem dX5_asked_60 : decode cX5_asked 60 = .ok (.getfield 34, 3) := by decide +kernel
theorem dX5_asked_63 : decode cX5_asked 63 = .ok (.iload_n 3, 1) := by decide +kernel
theorem dX5_asked_64 : decode cX5_asked 64 = .ok (.iload_n 2, 1) := by decide +kernel
theorem dX5_asked_65 : decode cX5_asked 65 = .ok (.invokevirtual 158, 3) := by decide +kernel
theorem dX5_asked_68 : decode cX5_asked 68 = .ok (.ireturn, 1) := by decide +kernel
theorem dX5_sure_0 : decode cX5_sure 0 = .ok (.aload_n 0, 1) := by decide +kernel
theorem dX5_sure_1 : decode cX5_sure 1 = .ok (.getfield 55, 3) := by decide +kernel
theorem dX5_sure_4 : decode cX5_sure 4 = .ok (.ifCond .eq 10, 3) := by decide +kernel
theorem dX5_sure_7 : decode cX5_sure 7 = .ok (.iload_n 1, 1) := by decide +kernel
theorem dX5_sure_8 : decode cX5_sure 8 = .ok (.invokestatic 102, 3) := by decide +kernel
theorem dX5_sure_11 : decode cX5_sure 11 = .ok (.ifCond .ne 5, 3) := by decide +kernel
theorem dX5_sure_14 : decode cX5_sure 14 = .ok (.iconst 0, 1) := by decide +kernel
theorem dX5_sure_15 : decode cX5_sure 15 = .ok (.ireturn, 1) := by decide +kernel
theorem dX5_sure_16 : decode cX5_sure 16 = .ok (.aload_n 0, 1) := by decide +kernel
theorem dX5_sure_17 : decode cX5_sure 17 = .ok (.getfield 41, 3) := by decide +kernel
theorem dX5_sure_20 : decode cX5_sure 20 = .ok (.iload_n 1, 1) := by decide +kernel
theorem dX5_sure_21 : decode cX5_sure 21 = .ok (.invokevirtual 145, 3) := by decide +kernel
theorem dX5_sure_24 : decode cX5_sure 24 = .ok (.ifCond .eq 5, 3) := by decide +kernel
theorem dX5_sure_27 : decode cX5_sure 27 = .ok (.iconst 1, 1) := by decide +kernel
theorem dX5_sure_28 : decode cX5_sure 28 = .ok (.ireturn, 1) := by decide +kernel
theorem dX5_sure_29 : decode cX5_sure 29 = .ok (.aload_n 0, 1) := by decide +kernel
theorem dX5_sure_30 : decode cX5_sure 30 = .ok (.getfield 34, 3) := by decide +kernel
theorem dX5_sure_33 : decode cX5_sure 33 = .ok (.iload_n 1, 1) := by decide +kernel
theorem dX5_sure_34 : decode cX5_sure 34 = .ok (.invokevirtual 152, 3) := by decide +kernel
theorem dX5_sure_37 : decode cX5_sure 37 = .ok (.istore_n 2, 1) := by decide +kernel
theorem dX5_sure_38 : decode cX5_sure 38 = .ok (.iload_n 2, 1) := by decide +kernel
theorem dX5_sure_39 : decode cX5_sure 39 = .ok (.iconst (-1), 1) := by decide +kernel
theorem dX5_sure_40 : decode cX5_sure 40 = .ok (.if_icmp .eq 26, 3) := by decide +kernel
theorem dX5_sure_43 : decode cX5_sure 43 = .ok (.aload_n 0, 1) := by decide +kernel
theorem dX5_sure_44 : decode cX5_sure 44 = .ok (.getfield 34, 3) := by decide +kernel
theorem dX5_sure_47 : decode cX5_sure 47 = .ok (.iload_n 2, 1) := by decide +kernel
theorem dX5_sure_48 : decode cX5_sure 48 = .ok (.invokevirtual 161, 3) := by decide +kernel
theorem dX5_sure_51 : decode cX5_sure 51 = .ok (.ifCond .ne 15, 3) := by decide +kernel
theorem dX5_sure_54 : decode cX5_sure 54 = .ok (.aload_n 0, 1) := by decide +kernel
theorem dX5_sure_55 : decode cX5_sure 55 = .ok (.iload_n 2, 1) := by decide +kernel
theorem dX5_sure_56 : decode cX5_sure 56 = .ok (.invokevirtual 164, 3) := by decide +kernel
theorem dX5_sure_59 : decode cX5_sure 59 = .ok (.ifCond .eq 7, 3) := by decide +kernel
theorem dX5_sure_62 : decode cX5_sure 62 = .ok (.iconst 1, 1) := by decide +kernel
theorem dX5_sure_63 : decode cX5_sure 63 = .ok (.goto 4, 3) := by decide +kernel
theorem dX5_sure_66 : decode cX5_sure 66 = .ok (.iconst 0, 1) := by decide +kernel
theorem dX5_sure_67 : decode cX5_sure 67 = .ok (.ireturn, 1) := by decide +kernel
theorem dX5_poke_0 : decode cX5_poke 0 = .ok (.iload_n 1, 1) := by decide +kernel
theorem dX5_poke_1 : decode cX5_poke 1 = .ok (.ifCond .lt 27, 3) := by decide +kernel
theorem dX5_poke_4 : decode cX5_poke 4 = .ok (.iload_n 1, 1) := by decide +kernel
theorem dX5_poke_5 : decode cX5_poke 5 = .ok (.aload_n 0, 1) := by decide +kernel
theorem dX5_poke_6 : decode cX5_poke 6 = .ok (.getfield 27, 3) := by decide +kernel
theorem dX5_poke_9 : decode cX5_poke 9 = .ok (.getfield 59, 3) := by decide +kernel
theorem dX5_poke_12 : decode cX5_poke 12 = .ok (.arraylength, 1) := by decide +kernel
theorem dX5_poke_13 : decode cX5_poke 13 = .ok (.if_icmp .ge 15, 3) := by decide +kernel
theorem dX5_poke_16 : decode cX5_poke 16 = .ok (.iload_n 2, 1) := by decide +kernel
theorem dX5_poke_17 : decode cX5_poke 17 = .ok (.iconst 1, 1) := by decide +kernel
theorem dX5_poke_18 : decode cX5_poke 18 = .ok (.if_icmp .lt 10, 3) := by decide +kernel
theorem dX5_poke_21 : decode cX5_poke 21 = .ok (.iload_n 2, 1) := by decide +kernel
theorem dX5_poke_22 : decode cX5_poke 22 = .ok (.sipush 255, 3) := by decide +kernel
theorem dX5_poke_25 : decode cX5_poke 25 = .ok (.if_icmp .le 6, 3) := by decide +kernel
theorem dX5_poke_28 : decode cX5_poke 28 = .ok (.bipush (-2), 2) := by decide +kernel
theorem dX5_poke_30 : decode cX5_poke 30 = .ok (.ireturn, 1) := by decide +kernel
theorem dX5_poke_31 : decode cX5_poke 31 = .ok (.aload_n 0, 1) := by decide +kernel
theorem dX5_poke_32 : decode cX5_poke 32 = .ok (.getfield 27, 3) := by decide +kernel
theorem dX5_poke_35 : decode cX5_poke 35 = .ok (.getfield 59, 3) := by decide +kernel
theorem dX5_poke_38 : decode cX5_poke 38 = .ok (.iload_n 1, 1) := by decide +kernel
theorem dX5_poke_39 : decode cX5_poke 39 = .ok (.aload_n 0, 1) := by decide +kernel
theorem dX5_poke_40 : decode cX5_poke 40 = .ok (.getfield 27, 3) := by decide +kernel
theorem dX5_poke_43 : decode cX5_poke 43 = .ok (.getfield 59, 3) := by decide +kernel
theorem dX5_poke_46 : decode cX5_poke 46 = .ok (.iload_n 1, 1) := by decide +kernel
theorem dX5_poke_47 : decode cX5_poke 47 = .ok (.baload, 1) := by decide +kernel
theorem dX5_poke_48 : decode cX5_poke 48 = .ok (.iload_n 2, 1) := by decide +kernel
theorem dX5_poke_49 : decode cX5_poke 49 = .ok (.ixor, 1) := by decide +kernel
theorem dX5_poke_50 : decode cX5_poke 50 = .ok (.i2b, 1) := by decide +kernel
theorem dX5_poke_51 : decode cX5_poke 51 = .ok (.bastore, 1) := by decide +kernel
theorem dX5_poke_52 : decode cX5_poke 52 = .ok (.iconst 1, 1) := by decide +kernel
theorem dX5_poke_53 : decode cX5_poke 53 = .ok (.ireturn, 1) := by decide +kernel
theorem dX5_wrong_0 : decode cX5_wrong 0 = .ok (.aload_n 0, 1) := by decide +kernel
theorem dX5_wrong_1 : decode cX5_wrong 1 = .ok (.getfield 90, 3) := by decide +kernel
theorem dX5_wrong_4 : decode cX5_wrong 4 = .ok (.ireturn, 1) := by decide +kernel
theorem dX5_lock_0 : decode cX5_lock 0 = .ok (.iload_n 1, 1) := by decide +kernel
theorem dX5_lock_1 : decode cX5_lock 1 = .ok (.invokestatic 177, 3) := by decide +kernel
theorem dX5_lock_4 : decode cX5_lock 4 = .ok (.ifCond .ne 6, 3) := by decide +kernel
theorem dX5_lock_7 : decode cX5_lock 7 = .ok (.bipush (-2), 2) := by decide +kernel
theorem dX5_lock_9 : decode cX5_lock 9 = .ok (.ireturn, 1) := by decide +kernel
theorem dX5_lock_10 : decode cX5_lock 10 = .ok (.aload_n 0, 1) := by decide +kernel
theorem dX5_lock_11 : decode cX5_lock 11 = .ok (.getfield 55, 3) := by decide +kernel
theorem dX5_lock_14 : decode cX5_lock 14 = .ok (.ifCond .ne 6, 3) := by decide +kernel
theorem dX5_lock_17 : decode cX5_lock 17 = .ok (.bipush (-3), 2) := by decide +kernel
theorem dX5_lock_19 : decode cX5_lock 19 = .ok (.ireturn, 1) := by decide +kernel
theorem dX5_lock_20 : decode cX5_lock 20 = .ok (.aload_n 0, 1) := by decide +kernel
theorem dX5_lock_21 : decode cX5_lock 21 = .ok (.getfield 34, 3) := by decide +kernel
theorem dX5_lock_24 : decode cX5_lock 24 = .ok (.invokevirtual 180, 3) := by decide +kernel
theorem dX5_lock_27 : decode cX5_lock 27 = .ok (.istore_n 2, 1) := by decide +kernel
theorem dX5_lock_28 : decode cX5_lock 28 = .ok (.iload_n 2, 1) := by decide +kernel
theorem dX5_lock_29 : decode cX5_lock 29 = .ok (.iconst (-1), 1) := by decide +kernel
theorem dX5_lock_30 : decode cX5_lock 30 = .ok (.if_icmp .eq 14, 3) := by decide +kernel
theorem dX5_lock_33 : decode cX5_lock 33 = .ok (.iload_n 2, 1) := by decide +kernel
theorem dX5_lock_34 : decode cX5_lock 34 = .ok (.iload_n 1, 1) := by decide +kernel
theorem dX5_lock_35 : decode cX5_lock 35 = .ok (.if_icmp .ne 7, 3) := by decide +kernel
theorem dX5_lock_38 : decode cX5_lock 38 = .ok (.iconst 1, 1) := by decide +kernel
theorem dX5_lock_39 : decode cX5_lock 39 = .ok (.goto 4, 3) := by decide +kernel
theorem dX5_lock_42 : decode cX5_lock 42 = .ok (.iconst 0, 1) := by decide +kernel
theorem dX5_lock_43 : decode cX5_lock 43 = .ok (.ireturn, 1) := by decide +kernel
theorem dX5_lock_44 : decode cX5_lock 44 = .ok (.aload_n 0, 1) := by decide +kernel
theorem dX5_lock_45 : decode cX5_lock 45 = .ok (.iconst 2, 1) := by decide +kernel
theorem dX5_lock_46 : decode cX5_lock 46 = .ok (.iload_n 1, 1) := by decide +kernel
theorem dX5_lock_47 : decode cX5_lock 47 = .ok (.lconst 0, 1) := by decide +kernel
theorem dX5_lock_48 : decode cX5_lock 48 = .ok (.invokevirtual 106, 3) := by decide +kernel
theorem dX5_lock_51 : decode cX5_lock 51 = .ok (.iconst (-1), 1) := by decide +kernel
theorem dX5_lock_52 : decode cX5_lock 52 = .ok (.if_icmp .ne 8, 3) := by decide +kernel
theorem dX5_lock_55 : decode cX5_lock 55 = .ok (.bipush (-4), 2) := by decide +kernel
theorem dX5_lock_57 : decode cX5_lock 57 = .ok (.goto 4, 3) := by decide +kernel
theorem dX5_lock_60 : decode cX5_lock 60 = .ok (.iconst 1, 1) := by decide +kernel
theorem dX5_lock_61 : decode cX5_lock 61 = .ok (.ireturn, 1) := by decide +kernel
theorem dX5_dead_0 : decode cX5_dead 0 = .ok (.iload_n 1, 1) := by decide +kernel
theorem dX5_dead_1 : decode cX5_dead 1 = .ok (.invokestatic 177, 3) := by decide +kernel
theorem dX5_dead_4 : decode cX5_dead 4 = .ok (.ifCond .ne 6, 3) := by decide +kernel
theorem dX5_dead_7 : decode cX5_dead 7 = .ok (.bipush (-2), 2) := by decide +kernel
theorem dX5_dead_9 : decode cX5_dead 9 = .ok (.ireturn, 1) := by decide +kernel
theorem dX5_dead_10 : decode cX5_dead 10 = .ok (.aload_n 0, 1) := by decide +kernel
theorem dX5_dead_11 : decode cX5_dead 11 = .ok (.getfield 55, 3) := by decide +kernel
theorem dX5_dead_14 : decode cX5_dead 14 = .ok (.ifCond .ne 6, 3) := by decide +kernel
theorem dX5_dead_17 : decode cX5_dead 17 = .ok (.bipush (-3), 2) := by decide +kernel
theorem dX5_dead_19 : decode cX5_dead 19 = .ok (.ireturn, 1) := by decide +kernel
theorem dX5_dead_20 : decode cX5_dead 20 = .ok (.aload_n 0, 1) := by decide +kernel
theorem dX5_dead_21 : decode cX5_dead 21 = .ok (.getfield 34, 3) := by decide +kernel
theorem dX5_dead_24 : decode cX5_dead 24 = .ok (.invokevirtual 180, 3) := by decide +kernel
theorem dX5_dead_27 : decode cX5_dead 27 = .ok (.iload_n 1, 1) := by decide +kernel
theorem dX5_dead_28 : decode cX5_dead 28 = .ok (.if_icmp .eq 5, 3) := by decide +kernel
theorem dX5_dead_31 : decode cX5_dead 31 = .ok (.iconst 0, 1) := by decide +kernel
theorem dX5_dead_32 : decode cX5_dead 32 = .ok (.ireturn, 1) := by decide +kernel
theorem dX5_dead_33 : decode cX5_dead 33 = .ok (.aload_n 0, 1) := by decide +kernel
theorem dX5_dead_34 : decode cX5_dead 34 = .ok (.iconst 3, 1) := by decide +kernel
theorem dX5_dead_35 : decode cX5_dead 35 = .ok (.iload_n 1, 1) := by decide +kernel
theorem dX5_dead_36 : decode cX5_dead 36 = .ok (.lconst 0, 1) := by decide +kernel
theorem dX5_dead_37 : decode cX5_dead 37 = .ok (.invokevirtual 106, 3) := by decide +kernel
theorem dX5_dead_40 : decode cX5_dead 40 = .ok (.iconst (-1), 1) := by decide +kernel
theorem dX5_dead_41 : decode cX5_dead 41 = .ok (.if_icmp .ne 8, 3) := by decide +kernel
theorem dX5_dead_44 : decode cX5_dead 44 = .ok (.bipush (-4), 2) := by decide +kernel
theorem dX5_dead_46 : decode cX5_dead 46 = .ok (.goto 4, 3) := by decide +kernel
theorem dX5_dead_49 : decode cX5_dead 49 = .ok (.iconst 1, 1) := by decide +kernel
theorem dX5_dead_50 : decode cX5_dead 50 = .ok (.ireturn, 1) := by decide +kernel
theorem dX5_edition_0 : decode cX5_edition 0 = .ok (.iload_n 1, 1) := by decide +kernel
theorem dX5_edition_1 : decode cX5_edition 1 = .ok (.iconst 1, 1) := by decide +kernel
theorem dX5_edition_2 : decode cX5_edition 2 = .ok (.if_icmp .lt 10, 3) := by decide +kernel
theorem dX5_edition_5 : decode cX5_edition 5 = .ok (.iload_n 1, 1) := by decide +kernel
theorem dX5_edition_6 : decode cX5_edition 6 = .ok (.sipush 200, 3) := by decide +kernel
theorem dX5_edition_9 : decode cX5_edition 9 = .ok (.if_icmp .le 6, 3) := by decide +kernel
theorem dX5_edition_12 : decode cX5_edition 12 = .ok (.bipush (-2), 2) := by decide +kernel
theorem dX5_edition_14 : decode cX5_edition 14 = .ok (.ireturn, 1) := by decide +kernel
theorem dX5_edition_15 : decode cX5_edition 15 = .ok (.aload_n 0, 1) := by decide +kernel
theorem dX5_edition_16 : decode cX5_edition 16 = .ok (.iload_n 1, 1) := by decide +kernel
theorem dX5_edition_17 : decode cX5_edition 17 = .ok (.putfield 52, 3) := by decide +kernel
theorem dX5_edition_20 : decode cX5_edition 20 = .ok (.iconst 1, 1) := by decide +kernel
theorem dX5_edition_21 : decode cX5_edition 21 = .ok (.ireturn, 1) := by decide +kernel
theorem dX5_aboutRunning_0 : decode cX5_aboutRunning 0 = .ok (.iload_n 1, 1) := by decide +kernel
theorem dX5_aboutRunning_1 : decode cX5_aboutRunning 1 = .ok (.tableswitch 90 1 7 #[43, 51, 59, 67, 75, 80, 85], 43) := by decide +kernel
theorem dX5_aboutRunning_44 : decode cX5_aboutRunning 44 = .ok (.aload_n 0, 1) := by decide +kernel
theorem dX5_aboutRunning_45 : decode cX5_aboutRunning 45 = .ok (.getfield 34, 3) := by decide +kernel
theorem dX5_aboutRunning_48 : decode cX5_aboutRunning 48 = .ok (.invokevirtual 93, 3) := by decide +kernel
theorem dX5_aboutRunning_51 : decode cX5_aboutRunning 51 = .ok (.ireturn, 1) := by decide +kernel
theorem dX5_aboutRunning_52 : decode cX5_aboutRunning 52 = .ok (.aload_n 0, 1) := by decide +kernel
theorem dX5_aboutRunning_53 : decode cX5_aboutRunning 53 = .ok (.getfield 27, 3) := by decide +kernel
theorem dX5_aboutRunning_56 : decode cX5_aboutRunning 56 = .ok (.invokevirtual 189, 3) := by decide +kernel
theorem dX5_aboutRunning_59 : decode cX5_aboutRunning 59 = .ok (.ireturn, 1) := by decide +kernel
theorem dX5_aboutRunning_60 : decode cX5_aboutRunning 60 = .ok (.aload_n 0, 1) := by decide +kernel
theorem dX5_aboutRunning_61 : decode cX5_aboutRunning 61 = .ok (.getfield 41, 3) := by decide +kernel
theorem dX5_aboutRunning_64 : decode cX5_aboutRunning 64 = .ok (.invokevirtual 192, 3) := by decide +kernel
theorem dX5_aboutRunning_67 : decode cX5_aboutRunning 67 = .ok (.ireturn, 1) := by decide +kernel
theorem dX5_aboutRunning_68 : decode cX5_aboutRunning 68 = .ok (.aload_n 0, 1) := by decide +kernel
theorem dX5_aboutRunning_69 : decode cX5_aboutRunning 69 = .ok (.getfield 34, 3) := by decide +kernel
theorem dX5_aboutRunning_72 : decode cX5_aboutRunning 72 = .ok (.invokevirtual 180, 3) := by decide +kernel
theorem dX5_aboutRunning_75 : decode cX5_aboutRunning 75 = .ok (.ireturn, 1) := by decide +kernel
theorem dX5_aboutRunning_76 : decode cX5_aboutRunning 76 = .ok (.aload_n 0, 1) := by decide +kernel
theorem dX5_aboutRunning_77 : decode cX5_aboutRunning 77 = .ok (.getfield 128, 3) := by decide +kernel
theorem dX5_aboutRunning_80 : decode cX5_aboutRunning 80 = .ok (.ireturn, 1) := by decide +kernel
theorem dX5_aboutRunning_81 : decode cX5_aboutRunning 81 = .ok (.aload_n 0, 1) := by decide +kernel
theorem dX5_aboutRunning_82 : decode cX5_aboutRunning 82 = .ok (.getfield 195, 3) := by decide +kernel
theorem dX5_aboutRunning_85 : decode cX5_aboutRunning 85 = .ok (.ireturn, 1) := by decide +kernel
theorem dX5_aboutRunning_86 : decode cX5_aboutRunning 86 = .ok (.aload_n 0, 1) := by decide +kernel
theorem dX5_aboutRunning_87 : decode cX5_aboutRunning 87 = .ok (.getfield 49, 3) := by decide +kernel
theorem dX5_aboutRunning_90 : decode cX5_aboutRunning 90 = .ok (.ireturn, 1) := by decide +kernel
theorem dX5_aboutRunning_91 : decode cX5_aboutRunning 91 = .ok (.iconst (-1), 1) := by decide +kernel
theorem dX5_aboutRunning_92 : decode cX5_aboutRunning 92 = .ok (.ireturn, 1) := by decide +kernel
theorem dX5_about_0 : decode cX5_about 0 = .ok (.iload_n 1, 1) := by decide +kernel
theorem dX5_about_1 : decode cX5_about 1 = .ok (.ifCond .ne 16, 3) := by decide +kernel
theorem dX5_about_4 : decode cX5_about 4 = .ok (.aload_n 0, 1) := by decide +kernel
theorem dX5_about_5 : decode cX5_about 5 = .ok (.getfield 55, 3) := by decide +kernel
theorem dX5_about_8 : decode cX5_about 8 = .ok (.ifCond .eq 7, 3) := by decide +kernel
theorem dX5_about_11 : decode cX5_about 11 = .ok (.iconst 1, 1) := by decide +kernel
theorem dX5_about_12 : decode cX5_about 12 = .ok (.goto 4, 3) := by decide +kernel
theorem dX5_about_15 : decode cX5_about 15 = .ok (.iconst 0, 1) := by decide +kernel
theorem dX5_about_16 : decode cX5_about 16 = .ok (.ireturn, 1) := by decide +kernel
theorem dX5_about_17 : decode cX5_about 17 = .ok (.iload_n 1, 1) := by decide +kernel
theorem dX5_about_18 : decode cX5_about 18 = .ok (.bipush 8, 2) := by decide +kernel
theorem dX5_about_20 : decode cX5_about 20 = .ok (.if_icmp .ne 11, 3) := by decide +kernel
theorem dX5_about_23 : decode cX5_about 23 = .ok (.aload_n 0, 1) := by decide +kernel
theorem dX5_about_24 : decode cX5_about 24 = .ok (.getfield 34, 3) := by decide +kernel
theorem dX5_about_27 : decode cX5_about 27 = .ok (.invokevirtual 183, 3) := by decide +kernel
theorem dX5_about_30 : decode cX5_about 30 = .ok (.ireturn, 1) := by decide +kernel
theorem dX5_about_31 : decode cX5_about 31 = .ok (.aload_n 0, 1) := by decide +kernel
theorem dX5_about_32 : decode cX5_about 32 = .ok (.getfield 55, 3) := by decide +kernel
theorem dX5_about_35 : decode cX5_about 35 = .ok (.ifCond .eq 11, 3) := by decide +kernel
theorem dX5_about_38 : decode cX5_about 38 = .ok (.aload_n 0, 1) := by decide +kernel
theorem dX5_about_39 : decode cX5_about 39 = .ok (.iload_n 1, 1) := by decide +kernel
theorem dX5_about_40 : decode cX5_about 40 = .ok (.invokevirtual 186, 3) := by decide +kernel
theorem dX5_about_43 : decode cX5_about 43 = .ok (.goto 4, 3) := by decide +kernel
theorem dX5_about_46 : decode cX5_about 46 = .ok (.iconst (-1), 1) := by decide +kernel
theorem dX5_about_47 : decode cX5_about 47 = .ok (.ireturn, 1) := by decide +kernel
theorem dX5_start_0 : decode cX5_start 0 = .ok (.aload_n 0, 1) := by decide +kernel
theorem dX5_start_1 : decode cX5_start 1 = .ok (.getfield 55, 3) := by decide +kernel
theorem dX5_start_4 : decode cX5_start 4 = .ok (.ifCond .eq 6, 3) := by decide +kernel
theorem dX5_start_7 : decode cX5_start 7 = .ok (.bipush (-3), 2) := by decide +kernel
theorem dX5_start_9 : decode cX5_start 9 = .ok (.ireturn, 1) := by decide +kernel
theorem dX5_start_10 : decode cX5_start 10 = .ok (.aload_n 0, 1) := by decide +kernel
theorem dX5_start_11 : decode cX5_start 11 = .ok (.getfield 27, 3) := by decide +kernel
theorem dX5_start_14 : decode cX5_start 14 = .ok (.getfield 59, 3) := by decide +kernel
theorem dX5_start_17 : decode cX5_start 17 = .ok (.invokestatic 63, 3) := by decide +kernel
theorem dX5_start_20 : decode cX5_start 20 = .ok (.istore_n 1, 1) := by decide +kernel
theorem dX5_start_21 : decode cX5_start 21 = .ok (.iload_n 1, 1) := by decide +kernel
theorem dX5_start_22 : decode cX5_start 22 = .ok (.iconst (-1), 1) := by decide +kernel
theorem dX5_start_23 : decode cX5_start 23 = .ok (.if_icmp .eq 23, 3) := by decide +kernel
theorem dX5_start_26 : decode cX5_start 26 = .ok (.aload_n 0, 1) := by decide +kernel
theorem dX5_start_27 : decode cX5_start 27 = .ok (.aload_n 0, 1) := by decide +kernel
theorem dX5_start_28 : decode cX5_start 28 = .ok (.getfield 27, 3) := by decide +kernel
theorem dX5_start_31 : decode cX5_start 31 = .ok (.getfield 59, 3) := by decide +kernel
theorem dX5_start_34 : decode cX5_start 34 = .ok (.iload_n 1, 1) := by decide +kernel
theorem dX5_start_35 : decode cX5_start 35 = .ok (.invokestatic 69, 3) := by decide +kernel
theorem dX5_start_38 : decode cX5_start 38 = .ok (.invokevirtual 73, 3) := by decide +kernel
theorem dX5_start_41 : decode cX5_start 41 = .ok (.ifCond .ne 5, 3) := by decide +kernel
theorem dX5_start_44 : decode cX5_start 44 = .ok (.iconst (-1), 1) := by decide +kernel
theorem dX5_start_45 : decode cX5_start 45 = .ok (.ireturn, 1) := by decide +kernel
theorem dX5_start_46 : decode cX5_start 46 = .ok (.iload_n 1, 1) := by decide +kernel
theorem dX5_start_47 : decode cX5_start 47 = .ok (.iconst (-1), 1) := by decide +kernel
theorem dX5_start_48 : decode cX5_start 48 = .ok (.if_icmp .ne 10, 3) := by decide +kernel
theorem dX5_start_51 : decode cX5_start 51 = .ok (.aload_n 0, 1) := by decide +kernel
theorem dX5_start_52 : decode cX5_start 52 = .ok (.invokevirtual 77, 3) := by decide +kernel
theorem dX5_start_55 : decode cX5_start 55 = .ok (.goto 8, 3) := by decide +kernel
theorem dX5_start_58 : decode cX5_start 58 = .ok (.aload_n 0, 1) := by decide +kernel
theorem dX5_start_59 : decode cX5_start 59 = .ok (.iload_n 1, 1) := by decide +kernel
theorem dX5_start_60 : decode cX5_start 60 = .ok (.invokevirtual 80, 3) := by decide +kernel
theorem dX5_start_63 : decode cX5_start 63 = .ok (.aload_n 0, 1) := by decide +kernel
theorem dX5_start_64 : decode cX5_start 64 = .ok (.aload_n 0, 1) := by decide +kernel
theorem dX5_start_65 : decode cX5_start 65 = .ok (.getfield 52, 3) := by decide +kernel
theorem dX5_start_68 : decode cX5_start 68 = .ok (.putfield 83, 3) := by decide +kernel
theorem dX5_start_71 : decode cX5_start 71 = .ok (.aload_n 0, 1) := by decide +kernel
theorem dX5_start_72 : decode cX5_start 72 = .ok (.aload_n 0, 1) := by decide +kernel
theorem dX5_start_73 : decode cX5_start 73 = .ok (.getfield 34, 3) := by decide +kernel
theorem dX5_start_76 : decode cX5_start 76 = .ok (.invokevirtual 86, 3) := by decide +kernel
theorem dX5_start_79 : decode cX5_start 79 = .ok (.putfield 90, 3) := by decide +kernel
theorem dX5_start_82 : decode cX5_start 82 = .ok (.aload_n 0, 1) := by decide +kernel
theorem dX5_start_83 : decode cX5_start 83 = .ok (.aload_n 0, 1) := by decide +kernel
theorem dX5_start_84 : decode cX5_start 84 = .ok (.getfield 34, 3) := by decide +kernel
theorem dX5_start_87 : decode cX5_start 87 = .ok (.invokevirtual 93, 3) := by decide +kernel
theorem dX5_start_90 : decode cX5_start 90 = .ok (.putfield 96, 3) := by decide +kernel
theorem dX5_start_93 : decode cX5_start 93 = .ok (.aload_n 0, 1) := by decide +kernel
theorem dX5_start_94 : decode cX5_start 94 = .ok (.invokevirtual 99, 3) := by decide +kernel
theorem dX5_start_97 : decode cX5_start 97 = .ok (.aload_n 0, 1) := by decide +kernel
theorem dX5_start_98 : decode cX5_start 98 = .ok (.iconst 1, 1) := by decide +kernel
theorem dX5_start_99 : decode cX5_start 99 = .ok (.putfield 55, 3) := by decide +kernel
theorem dX5_start_102 : decode cX5_start 102 = .ok (.aload_n 0, 1) := by decide +kernel
theorem dX5_start_103 : decode cX5_start 103 = .ok (.getfield 34, 3) := by decide +kernel
theorem dX5_start_106 : decode cX5_start 106 = .ok (.invokevirtual 93, 3) := by decide +kernel
theorem dX5_start_109 : decode cX5_start 109 = .ok (.aload_n 0, 1) := by decide +kernel
theorem dX5_start_110 : decode cX5_start 110 = .ok (.getfield 34, 3) := by decide +kernel
theorem dX5_start_113 : decode cX5_start 113 = .ok (.invokevirtual 86, 3) := by decide +kernel
theorem dX5_start_116 : decode cX5_start 116 = .ok (.isub, 1) := by decide +kernel
theorem dX5_start_117 : decode cX5_start 117 = .ok (.ireturn, 1) := by decide +kernel
end
section
/-! lemmas on numbers for the contracts -/
theorem nar01 {r : Int} (h : r = 0 ∨ r = 1) : narrow .boolean (.int (iZ r)) = .int (iZ r) := by
  rcases h with h | h <;> subst h <;> rfl
def nmOk (zk zn : Nat → Int) : Prop := ∀ j, zk j = 1 → 0 ≤ zn j ∧ zn j ≤ 63
theorem xor2_sign {x b : Int} (hx : -2147483648 ≤ x ∧ x ≤ 2147483647) (hb : -2147483648 ≤ b ∧ b ≤ 2147483647) (e : iZ x ^^^ iZ 2 = iZ b) : 0 ≤ b ↔ 0 ≤ x := by
  have h1 : (iZ b).toBitVec.msb = (iZ x).toBitVec.msb := by
    rw [← e]
    show ((iZ x).toBitVec ^^^ (iZ 2).toBitVec).msb = _
    rw [BitVec.msb_xor, show (iZ 2).toBitVec.msb = false by decide]
    simp
  have h2 := iZ_toInt hb
  have h3 := iZ_toInt hx
  have t1 : (iZ b).toBitVec.toInt = b := h2
  have t2 : (iZ x).toBitVec.toInt = x := h3
  rw [BitVec.msb_eq_toInt, BitVec.msb_eq_toInt, t1, t2] at h1
  have h4 : b < 0 ↔ x < 0 := by simpa using h1
  omega
theorem tmod_neg2 (x : Int) : x ≤ 0 → x.tmod 2 ≤ 0 := by
  intro h
  have h1 : (-x).tmod 2 = -(x.tmod 2) := Int.neg_tmod x 2
  have h2 := Int.tmod_nonneg 2 (show 0 ≤ -x by omega)
  omega
theorem sum_rot {m : Int32} {b1 b2 b3 b4 : Int} (hm : ¬ m = 0) (e2 : m <<< (iZ 5 &&& 31) = iZ b2) (e3 : (m.toUInt32 >>> ((iZ 27).toUInt32 &&& Int32.toUInt32 31)).toInt32 = iZ b3) (e4 : iZ b2 ||| iZ b3 = iZ b4) : ¬ iZ b4 = 0 := by
  intro q
  rw [q, ← e2, ← e3] at e4
  have h1 := pk_shl m (iZ 5 &&& 31) 5 (by decide)
  have h2 := pk_ushr m (iZ 27) 27 (by decide)
  generalize m <<< (iZ 5 &&& 31) = u at e4 h1
  generalize (m.toUInt32 >>> ((iZ 27).toUInt32 &&& Int32.toUInt32 31)).toInt32 = w at e4 h2
  have h3 : u.toBitVec ||| w.toBitVec = 0#32 := congrArg Int32.toBitVec e4
  have h4 : u.toBitVec = 0#32 ∧ w.toBitVec = 0#32 := by
    constructor
    · ext i hi
      have := congrArg (fun v => v.getLsbD i) h3
      simp at this
      simp
      rw [← BitVec.getLsbD_eq_getElem]
      exact this.1
    · ext i hi
      have := congrArg (fun v => v.getLsbD i) h3
      simp at this
      simp
      rw [← BitVec.getLsbD_eq_getElem]
      exact this.2
  rw [h4.1] at h1
  rw [h4.2] at h2
  have h5 : m.toBitVec.toNat < 2 ^ 32 := m.toBitVec.isLt
  simp at h1 h2
  have h6 : m.toBitVec.toNat = 0 := by omega
  apply hm
  apply Int32.toBitVec.inj
  apply BitVec.eq_of_toNat_eq
  rw [h6]; rfl
theorem sum_nz {s b1 b2 b3 b4 v : Int} (rs : -2147483648 ≤ s ∧ s ≤ 2147483647) (hs : ¬ s = 0) (e1 : iZ s ^^^ iZ (0 % 256) = iZ b1) (e2 : iZ b1 <<< (iZ 5 &&& 31) = iZ b2) (e3 : ((iZ b1).toUInt32 >>> ((iZ 27).toUInt32 &&& Int32.toUInt32 31)).toInt32 = iZ b3) (e4 : iZ b2 ||| iZ b3 = iZ b4) (rv : -2147483648 ≤ v ∧ v ≤ 2147483647) (ev : iZ (b4 * (-2048144777)) = iZ v) : ¬ v = 0 := by
  intro q
  have h0 : iZ b1 = iZ s := by
    rw [← e1, show iZ (0 % 256) = (0 : Int32) from rfl]
    simp
  have hm : ¬ iZ b1 = 0 := fun z => hs ((iZ_eq (a := s) (b := 0) ⟨rs, by decide⟩).mp (by rw [← h0]; exact z))
  have h4 := sum_rot (b1 := 0) hm e2 e3 e4
  apply h4
  rw [q] at ev
  have h5 : iZ b4 * iZ (-2048144777) = 0 := by rw [iZ_mul]; exact ev
  have h6 : iZ (-2048144777) * iZ (-1228329145) = 1 := by decide
  calc iZ b4 = iZ b4 * (iZ (-2048144777) * iZ (-1228329145)) := by rw [h6, Int32.mul_one]
    _ = (iZ b4 * iZ (-2048144777)) * iZ (-1228329145) := by rw [Int32.mul_assoc]
    _ = 0 := by rw [h5, Int32.zero_mul]
set_option maxHeartbeats 4000000 in
set_option maxRecDepth 20000 in
theorem k_X2_read (l : Launch) (D : va_G) (K : KI) (a : Nat) (n : Nat) (z : Nat → Int) (pa : Int) (cnt : Int) (h0 : n < 2147483648 ∧ 0 ≤ pa ∧ 0 ≤ cnt ∧ pa + cnt ≤ n) : Ct lw_T l yX2_read cX2_read 6 (some .long) { frames := 0, cells := 0, slots := 0, locals := 0 } 0 0 D cls5 (TY K) [.ref a, .int (iZ pa), .int (iZ cnt)] [aB K a n z] (fun v wo => ∃ (r : Int64), v = some (.long r) ∧ wo = [aB K a n z] ∧ ((∀ j, z j = 0) → r = 0)) := by
  refine ct_of (own := RX2) (lv := [(0, .ref a), (1, .int (iZ pa)), (2, .int (iZ cnt))]) (by decide) rfl (Nat.le_of_ble_eq_true rfl) rfl (fun C F hr hnm hzl => ?_)
  subst hzl
  refine z_lconst F (v := 0) dX2_read_0 (by decide) ?_
  refine z_lstore_n F (lv' := [(3, .long 0), (0, .ref a), (1, .int (iZ pa)), (2, .int (iZ cnt))]) dX2_read_1 (by decide) rfl ?_
  refine z_iconst F dX2_read_2 ?_
  refine z_istore F (lv' := [(5, .int (iZ 0)), (3, .long 0), (0, .ref a), (1, .int (iZ pa)), (2, .int (iZ cnt))]) dX2_read_3 (by decide) rfl ?_
  have lp5 : ∀ (nn : Nat) (w : Int64) (i : Int), (0 ≤ i ∧ i ≤ cnt) → ((∀ j, z j = 0) → w = 0) → ((cnt - i : Int).toNat < nn) → Go C { frames := 0, cells := 0, slots := 0, locals := 0 } D cls5 6 0 0 [aB K a n z] 5 [(5, .int (iZ i)), (3, .long w), (0, .ref a), (1, .int (iZ pa)), (2, .int (iZ cnt))] [] := by
    intro nn
    induction nn with
    | zero => intro w i g5_0 g5_1 hmu; exact absurd hmu (Nat.not_lt_zero _)
    | succ nn ih =>
      intro w i g5_0 g5_1 hmu
      refine z_iload F 0 dX2_read_5 rfl ?_
      refine z_iload_n F 4 dX2_read_7 rfl ?_
      refine z_icmp_ge F 34 dX2_read_8 (by decide) (by omega) (fun c1 => ?_) (fun c1 => ?_)
      · refine z_lload_n F 1 dX2_read_34 rfl ?_
        exact z_lret F hr dX2_read_35 (by omega) ⟨w, rfl, rfl, g5_1⟩
      · refine z_lload_n F 1 dX2_read_11 rfl ?_
        refine z_bipush F dX2_read_12 (by decide) ?_
        refine z_lshl F dX2_read_14 ?_
        refine z_aload_n F 2 dX2_read_15 rfl ?_
        refine z_iload_n F 3 dX2_read_16 rfl ?_
        refine z_iload F 0 dX2_read_17 rfl ?_
        refine z_iadd F dX2_read_19 ?_
        refine z_bald F 0 rfl rfl dX2_read_20 (by omega) (by omega) ?_
        refine z_sipush F dX2_read_21 (by decide) ?_
        refine z_and255 F dX2_read_24 ?_
        refine z_i2l F dX2_read_25 ?_
        refine z_lor F dX2_read_26 ?_
        refine z_lstore_n F (lv' := [(3, .long ((w <<< ((iZ 8).toInt64 &&& 63)) ||| ((iZ ((z (pa + i).toNat) % 256)).toInt64))), (5, .int (iZ i)), (0, .ref a), (1, .int (iZ pa)), (2, .int (iZ cnt))]) dX2_read_27 (by decide) rfl ?_
        refine z_iinc F (lv' := [(5, .int (iZ (i + 1))), (3, .long ((w <<< ((iZ 8).toInt64 &&& 63)) ||| ((iZ ((z (pa + i).toNat) % 256)).toInt64))), (0, .ref a), (1, .int (iZ pa)), (2, .int (iZ cnt))]) 1 dX2_read_28 rfl (by decide) rfl ?_
        refine z_goto F 5 dX2_read_31 (by decide) ?_
        exact ih ((w <<< ((iZ 8).toInt64 &&& 63)) ||| ((iZ ((z (pa + i).toNat) % 256)).toInt64)) (i + 1) (by omega) (fun h => by rw [g5_1 h, h]; decide) (by omega)
  exact lp5 ((cnt - 0 : Int).toNat + 1) 0 0 (by omega) (fun _ => rfl) (Nat.lt_succ_self _)
set_option maxHeartbeats 4000000 in
set_option maxRecDepth 20000 in
theorem k_X2_sum (l : Launch) (D : va_G) (K : KI) (a : Nat) (n : Nat) (z : Nat → Int) (pa : Int) (cnt : Int) (by0 : Int) (h0 : n < 2147483648 ∧ 0 ≤ pa ∧ 0 ≤ cnt ∧ pa + cnt ≤ n) : Ct lw_T l yX2_sum cX2_sum 7 (some .int) { frames := 0, cells := 0, slots := 0, locals := 0 } 0 0 D cls5 (TY K) [.ref a, .int (iZ pa), .int (iZ cnt), .int (iZ by0)] [aB K a n z] (fun v wo => ∃ (r : Int), v = some (.int (iZ r)) ∧ wo = [aB K a n z] ∧ (-2147483648 ≤ r ∧ r ≤ 2147483647) ∧ ((∀ j, z j = 0) → by0 = 0 → ¬ r = 0)) := by
  refine ct_of (own := RX2) (lv := [(0, .ref a), (1, .int (iZ pa)), (2, .int (iZ cnt)), (3, .int (iZ by0))]) (by decide) rfl (Nat.le_of_ble_eq_true rfl) rfl (fun C F hr hnm hzl => ?_)
  subst hzl
  refine z_iload_n F 3 dX2_sum_0 rfl ?_
  refine z_iconst F dX2_sum_1 ?_
  refine z_iadd F dX2_sum_2 ?_
  refine z_norm F (fun y1 ry1 ey1 => ?_)
  have hsy1 : (∀ j, z j = 0) → by0 = 0 → ¬ y1 = 0 := fun _ hb q => by rw [hb, q] at ey1; exact absurd ey1 (by decide)
  refine z_istore F (lv' := [(4, .int (iZ y1)), (0, .ref a), (1, .int (iZ pa)), (2, .int (iZ cnt)), (3, .int (iZ by0))]) dX2_sum_3 (by decide) rfl ?_
  refine z_iconst F dX2_sum_5 ?_
  refine z_istore F (lv' := [(5, .int (iZ 0)), (4, .int (iZ y1)), (0, .ref a), (1, .int (iZ pa)), (2, .int (iZ cnt)), (3, .int (iZ by0))]) dX2_sum_6 (by decide) rfl ?_
  have lp8 : ∀ (nn : Nat) (s : Int) (i : Int), (0 ≤ i ∧ i ≤ cnt) → (-2147483648 ≤ s ∧ s ≤ 2147483647) → ((∀ j, z j = 0) → by0 = 0 → ¬ s = 0) → ((cnt - i : Int).toNat < nn) → Go C { frames := 0, cells := 0, slots := 0, locals := 0 } D cls5 7 0 0 [aB K a n z] 8 [(5, .int (iZ i)), (4, .int (iZ s)), (0, .ref a), (1, .int (iZ pa)), (2, .int (iZ cnt)), (3, .int (iZ by0))] [] := by
    intro nn
    induction nn with
    | zero => intro s i g8_0 g8_1 g8_2 hmu; exact absurd hmu (Nat.not_lt_zero _)
    | succ nn ih =>
      intro s i g8_0 g8_1 g8_2 hmu
      refine z_iload F 0 dX2_sum_8 rfl ?_
      refine z_iload_n F 4 dX2_sum_10 rfl ?_
      refine z_icmp_ge F 50 dX2_sum_11 (by decide) (by omega) (fun c2 => ?_) (fun c2 => ?_)
      · refine z_iload F 1 dX2_sum_50 rfl ?_
        exact z_iret F hr dX2_sum_52 (by omega) ⟨s, rfl, rfl, g8_1, g8_2⟩
      · refine z_iload F 1 dX2_sum_14 rfl ?_
        refine z_aload_n F 2 dX2_sum_16 rfl ?_
        refine z_iload_n F 3 dX2_sum_17 rfl ?_
        refine z_iload F 0 dX2_sum_18 rfl ?_
        refine z_iadd F dX2_sum_20 ?_
        refine z_bald F 0 rfl rfl dX2_sum_21 (by omega) (by omega) ?_
        refine z_sipush F dX2_sum_22 (by decide) ?_
        refine z_and255 F dX2_sum_25 ?_
        refine z_ixor F dX2_sum_26 (fun b3 rb3 eb3 => ?_)
        refine z_istore F (lv' := [(6, .int (iZ b3)), (5, .int (iZ i)), (4, .int (iZ s)), (0, .ref a), (1, .int (iZ pa)), (2, .int (iZ cnt)), (3, .int (iZ by0))]) dX2_sum_27 (by decide) rfl ?_
        refine z_iload F 0 dX2_sum_29 rfl ?_
        refine z_iconst F dX2_sum_31 ?_
        refine z_ishl F dX2_sum_32 (fun b4 rb4 eb4 => ?_)
        refine z_iload F 0 dX2_sum_33 rfl ?_
        refine z_bipush F dX2_sum_35 (by decide) ?_
        refine z_iushr F dX2_sum_37 (fun b5 rb5 eb5 => ?_)
        refine z_ior F dX2_sum_38 (fun b6 rb6 eb6 => ?_)
        refine z_ldc F t1_177 dX2_sum_39 (z := -2048144777) (by decide) ?_
        refine z_imul F dX2_sum_41 ?_
        refine z_norm F (fun y7 ry7 ey7 => ?_)
        have hsy7 : (∀ j, z j = 0) → by0 = 0 → ¬ y7 = 0 := fun hz hb => sum_nz g8_1 (g8_2 hz hb) (by have h9 := eb3; rw [hz] at h9; exact h9) eb4 eb5 eb6 ry7 ey7
        refine z_istore F (lv' := [(4, .int (iZ y7)), (6, .int (iZ b3)), (5, .int (iZ i)), (0, .ref a), (1, .int (iZ pa)), (2, .int (iZ cnt)), (3, .int (iZ by0))]) dX2_sum_42 (by decide) rfl ?_
        refine z_iinc F (lv' := [(5, .int (iZ (i + 1))), (4, .int (iZ y7)), (6, .int (iZ b3)), (0, .ref a), (1, .int (iZ pa)), (2, .int (iZ cnt)), (3, .int (iZ by0))]) 2 dX2_sum_44 rfl (by decide) rfl ?_
        refine z_goto F 8 dX2_sum_47 (by decide) ?_
        refine z_lv F (lv' := [(5, .int (iZ (i + 1))), (4, .int (iZ y7)), (0, .ref a), (1, .int (iZ pa)), (2, .int (iZ cnt)), (3, .int (iZ by0))]) [0, 1, 3, 4, 5, 6] rfl ?_
        exact ih y7 (i + 1) (by omega) ry7 hsy7 (by omega)
  exact lp8 ((cnt - 0 : Int).toNat + 1) y1 0 (by omega) ry1 hsy1 (Nat.lt_succ_self _)
set_option maxHeartbeats 4000000 in
set_option maxRecDepth 20000 in
theorem k_X2_hasSum (l : Launch) (D : va_G) (K : KI) (a : Nat) (n : Nat) (z : Nat → Int) (pa : Int) (cnt : Int) (by0 : Int) (h0 : n < 2147483648 ∧ 0 ≤ pa ∧ 0 ≤ cnt ∧ pa + cnt + 4 ≤ n) : Ct lw_T l yX2_hasSum cX2_hasSum 4 (some .boolean) { frames := 1, cells := 0, slots := 0, locals := 26 } 0 0 D cls5 (TY K) [.ref a, .int (iZ pa), .int (iZ cnt), .int (iZ by0)] [aB K a n z] (fun v wo => ∃ (r : Int), v = some (.int (iZ r)) ∧ wo = [aB K a n z] ∧ (r = 0 ∨ r = 1) ∧ ((∀ j, z j = 0) → by0 = 0 → r = 0)) := by
  refine ct_of (own := RX2) (lv := [(0, .ref a), (1, .int (iZ pa)), (2, .int (iZ cnt)), (3, .int (iZ by0))]) (by decide) rfl (Nat.le_of_ble_eq_true rfl) rfl (fun C F hr hnm hzl => ?_)
  subst hzl
  refine z_aload_n F 0 dX2_hasSum_0 rfl ?_
  refine z_iload_n F 1 dX2_hasSum_1 rfl ?_
  refine z_iload_n F 2 dX2_hasSum_2 rfl ?_
  refine z_iadd F dX2_hasSum_3 ?_
  refine z_iconst F dX2_hasSum_4 ?_
  refine z_callS F lw_good (k_X2_read _ D K a n z (pa + cnt) 4 (by omega)) t1_164 t1_8 t1_173 t1_163 ⟨rfl, rfl⟩ ndX2_read ⟨Nat.le_of_ble_eq_true rfl, Nat.le_of_ble_eq_true rfl⟩ (rest := []) rfl (Nat.le_of_ble_eq_true rfl) dX2_hasSum_5 ⟨(show 0 + 0 ≤ 0 by omega), (show 0 + 0 ≤ 0 by omega)⟩ (wr := []) ([0] : List Nat) ([] : List Nat) rfl rfl rfl rfl (by decide) (fun v wo hp => ?_)
  obtain ⟨r_1, rfl, rfl, f2⟩ := hp
  refine z_re F (ws' := [aB K a n z]) (st' := [.long r_1]) ([0] : List Nat) rfl rfl rfl ?_
  refine z_l2i F dX2_hasSum_8 (fun b3 rb3 eb3 => ?_)
  refine z_aload_n F 0 dX2_hasSum_9 rfl ?_
  refine z_iload_n F 1 dX2_hasSum_10 rfl ?_
  refine z_iload_n F 2 dX2_hasSum_11 rfl ?_
  refine z_iload_n F 3 dX2_hasSum_12 rfl ?_
  refine z_callS F lw_good (k_X2_sum _ D K a n z pa cnt by0 (by omega)) t1_176 t1_8 t1_174 t1_175 ⟨rfl, rfl⟩ ndX2_sum ⟨Nat.le_of_ble_eq_true rfl, Nat.le_of_ble_eq_true rfl⟩ (rest := [.int (iZ b3)]) rfl (Nat.le_of_ble_eq_true rfl) dX2_hasSum_13 ⟨(show 0 + 0 ≤ 0 by omega), (show 0 + 0 ≤ 0 by omega)⟩ (wr := []) ([0] : List Nat) ([] : List Nat) rfl rfl rfl rfl (by decide) (fun v wo hp => ?_)
  obtain ⟨r_4, rfl, rfl, f5, f6⟩ := hp
  refine z_re F (ws' := [aB K a n z]) (st' := [.int (iZ r_4), .int (iZ b3)]) ([0] : List Nat) rfl rfl rfl ?_
  have hfr := f2; have hfs := f6; have hfe := eb3
  refine z_icmp_ne F 23 dX2_hasSum_16 (by decide) (by omega) (fun c7 => ?_) (fun c7 => ?_)
  · refine z_iconst F dX2_hasSum_23 ?_
    exact z_zret F hr (by decide) dX2_hasSum_24 (by omega) ⟨0, rfl, rfl, (by omega), (by first | exact fun _ _ => rfl | (intro hz hb; exfalso; have q1 := hfr hz; have q2 := hfs hz hb; rw [q1] at hfe; have q3 := (iZ_eq (a := 0) ⟨by omega, by omega⟩).mp hfe; omega))⟩
  · refine z_iconst F dX2_hasSum_19 ?_
    refine z_goto F 24 dX2_hasSum_20 (by decide) ?_
    exact z_zret F hr (by decide) dX2_hasSum_24 (by omega) ⟨1, rfl, rfl, (by omega), (by first | exact fun _ _ => rfl | (intro hz hb; exfalso; have q1 := hfr hz; have q2 := hfs hz hb; rw [q1] at hfe; have q3 := (iZ_eq (a := 0) ⟨by omega, by omega⟩).mp hfe; omega))⟩
set_option maxHeartbeats 4000000 in
set_option maxRecDepth 20000 in
theorem k_X2_write (l : Launch) (D : va_G) (K : KI) (a : Nat) (n : Nat) (z : Nat → Int) (pa : Int) (cnt : Int) (num : Int64) (h0 : n < 2147483648 ∧ 0 ≤ pa ∧ 0 ≤ cnt ∧ pa + cnt ≤ n) (h1 : rng (-128) 127 z) : Ct lw_T l yX2_write cX2_write 6 none { frames := 0, cells := 0, slots := 0, locals := 0 } 0 0 D cls5 (TY K) [.ref a, .int (iZ pa), .int (iZ cnt), .long num] [aB K a n z] (fun v wo => ∃ (z2 : Nat → Int), v = none ∧ wo = [aB K a n z2] ∧ (rng (-128) 127 z2)) := by
  refine ct_of (own := RX2) (lv := [(0, .ref a), (1, .int (iZ pa)), (2, .int (iZ cnt)), (3, .long num)]) (by decide) rfl (Nat.le_of_ble_eq_true rfl) rfl (fun C F hr hnm hzl => ?_)
  subst hzl
  refine z_iconst F dX2_write_0 ?_
  refine z_istore F (lv' := [(5, .int (iZ 0)), (0, .ref a), (1, .int (iZ pa)), (2, .int (iZ cnt)), (3, .long num)]) dX2_write_1 (by decide) rfl ?_
  have lp3 : ∀ (nn : Nat) (i : Int) (w : Nat → Int), (0 ≤ i ∧ i ≤ cnt) → (rng (-128) 127 w) → ((cnt - i : Int).toNat < nn) → Go C { frames := 0, cells := 0, slots := 0, locals := 0 } D cls5 6 0 0 [aB K a n w] 3 [(5, .int (iZ i)), (0, .ref a), (1, .int (iZ pa)), (2, .int (iZ cnt)), (3, .long num)] [] := by
    intro nn
    induction nn with
    | zero => intro i w g3_0 g3_1 hmu; exact absurd hmu (Nat.not_lt_zero _)
    | succ nn ih =>
      intro i w g3_0 g3_1 hmu
      refine z_iload F 0 dX2_write_3 rfl ?_
      refine z_iload_n F 3 dX2_write_5 rfl ?_
      refine z_icmp_ge F 34 dX2_write_6 (by decide) (by omega) (fun c1 => ?_) (fun c1 => ?_)
      · exact z_vret F hr dX2_write_34 (by omega) ⟨w, rfl, rfl, g3_1⟩
      · refine z_aload_n F 1 dX2_write_9 rfl ?_
        refine z_iload_n F 2 dX2_write_10 rfl ?_
        refine z_iload F 0 dX2_write_11 rfl ?_
        refine z_iadd F dX2_write_13 ?_
        refine z_lload_n F 4 dX2_write_14 rfl ?_
        refine z_bipush F dX2_write_15 (by decide) ?_
        refine z_iload_n F 3 dX2_write_17 rfl ?_
        refine z_iconst F dX2_write_18 ?_
        refine z_isub F dX2_write_19 ?_
        refine z_iload F 0 dX2_write_20 rfl ?_
        refine z_isub F dX2_write_22 ?_
        refine z_imul F dX2_write_23 ?_
        refine z_lushr F dX2_write_24 ?_
        refine z_l2i F dX2_write_25 (fun b2 rb2 eb2 => ?_)
        refine z_i2b F dX2_write_26 ?_
        refine z_bast F (ws' := [aB K a n (zu w (pa + i).toNat ((b2.bmod 256).bmod 256))]) 0 rfl rfl dX2_write_27 (by omega) (by omega) rfl ?_
        have r3 : rng (-128) 127 (zu w (pa + i).toNat ((b2.bmod 256).bmod 256)) := rng_zu g3_1 (bm_r _)
        refine z_iinc F (lv' := [(5, .int (iZ (i + 1))), (0, .ref a), (1, .int (iZ pa)), (2, .int (iZ cnt)), (3, .long num)]) 0 dX2_write_28 rfl (by decide) rfl ?_
        refine z_goto F 3 dX2_write_31 (by decide) ?_
        exact ih (i + 1) (zu w (pa + i).toNat ((b2.bmod 256).bmod 256)) (by omega) r3 (by omega)
  exact lp3 ((cnt - 0 : Int).toNat + 1) 0 z (by omega) h1 (Nat.lt_succ_self _)
set_option maxHeartbeats 4000000 in
set_option maxRecDepth 20000 in
theorem k_X2_writeSum (l : Launch) (D : va_G) (K : KI) (a : Nat) (n : Nat) (z : Nat → Int) (pa : Int) (cnt : Int) (by0 : Int) (h0 : n < 2147483648 ∧ 0 ≤ pa ∧ 0 ≤ cnt ∧ pa + cnt + 4 ≤ n) (h1 : rng (-128) 127 z) : Ct lw_T l yX2_writeSum cX2_writeSum 4 none { frames := 1, cells := 0, slots := 0, locals := 26 } 0 0 D cls5 (TY K) [.ref a, .int (iZ pa), .int (iZ cnt), .int (iZ by0)] [aB K a n z] (fun v wo => ∃ (z2 : Nat → Int), v = none ∧ wo = [aB K a n z2] ∧ (rng (-128) 127 z2)) := by
  refine ct_of (own := RX2) (lv := [(0, .ref a), (1, .int (iZ pa)), (2, .int (iZ cnt)), (3, .int (iZ by0))]) (by decide) rfl (Nat.le_of_ble_eq_true rfl) rfl (fun C F hr hnm hzl => ?_)
  subst hzl
  refine z_aload_n F 0 dX2_writeSum_0 rfl ?_
  refine z_iload_n F 1 dX2_writeSum_1 rfl ?_
  refine z_iload_n F 2 dX2_writeSum_2 rfl ?_
  refine z_iadd F dX2_writeSum_3 ?_
  refine z_iconst F dX2_writeSum_4 ?_
  refine z_aload_n F 0 dX2_writeSum_5 rfl ?_
  refine z_iload_n F 1 dX2_writeSum_6 rfl ?_
  refine z_iload_n F 2 dX2_writeSum_7 rfl ?_
  refine z_iload_n F 3 dX2_writeSum_8 rfl ?_
  refine z_callS F lw_good (k_X2_sum _ D K a n z pa cnt by0 (by omega)) t1_176 t1_8 t1_174 t1_175 ⟨rfl, rfl⟩ ndX2_sum ⟨Nat.le_of_ble_eq_true rfl, Nat.le_of_ble_eq_true rfl⟩ (rest := [.int (iZ 4), .int (iZ (pa + cnt)), .ref a]) rfl (Nat.le_of_ble_eq_true rfl) dX2_writeSum_9 ⟨(show 0 + 0 ≤ 0 by omega), (show 0 + 0 ≤ 0 by omega)⟩ (wr := []) ([0] : List Nat) ([] : List Nat) rfl rfl rfl rfl (by decide) (fun v wo hp => ?_)
  obtain ⟨r_1, rfl, rfl, f2, f3⟩ := hp
  refine z_re F (ws' := [aB K a n z]) (st' := [.int (iZ r_1), .int (iZ 4), .int (iZ (pa + cnt)), .ref a]) ([0] : List Nat) rfl rfl rfl ?_
  refine z_i2l F dX2_writeSum_12 ?_
  refine z_callS F lw_good (k_X2_write _ D K a n z (pa + cnt) 4 ((iZ r_1).toInt64) (by omega) h1) t2_36 t1_8 t2_40 t2_35 ⟨rfl, rfl⟩ ndX2_write ⟨Nat.le_of_ble_eq_true rfl, Nat.le_of_ble_eq_true rfl⟩ (rest := []) rfl (Nat.le_of_ble_eq_true rfl) dX2_writeSum_13 ⟨(show 0 + 0 ≤ 0 by omega), (show 0 + 0 ≤ 0 by omega)⟩ (wr := []) ([0] : List Nat) ([] : List Nat) rfl rfl rfl rfl (by decide) (fun v wo hp => ?_)
  obtain ⟨z2_4, rfl, rfl, f5⟩ := hp
  refine z_re F (ws' := [aB K a n z2_4]) (st' := []) ([0] : List Nat) rfl rfl rfl ?_
  exact z_vret F hr dX2_writeSum_16 (by omega) ⟨z2_4, rfl, rfl, f5⟩
end
section
set_option maxHeartbeats 4000000 in
set_option maxRecDepth 20000 in
theorem k_X1_areaAt (l : Launch) (D : va_G) (K : KI) (a : Nat) (n : Nat) (z : Nat → Int) (h : Int) (h0 : 1024 ≤ n ∧ n < 2147483648 ∧ 0 ≤ h ∧ h ≤ 1) : Ct lw_T l yX1_areaAt cX1_areaAt 2 (some .int) { frames := 0, cells := 0, slots := 0, locals := 0 } 0 0 D cls5 (TY K) [.ref a, .int (iZ h)] [aB K a n z] (fun v wo => ∃ (r : Int), v = some (.int (iZ r)) ∧ wo = [aB K a n z] ∧ (r = z (h * 512 + 8).toNat % 256)) := by
  refine ct_of (own := RX1) (lv := [(0, .ref a), (1, .int (iZ h))]) (by decide) rfl (Nat.le_of_ble_eq_true rfl) rfl (fun C F hr hnm hzl => ?_)
  subst hzl
  refine z_aload_n F 0 dX1_areaAt_0 rfl ?_
  refine z_iload_n F 1 dX1_areaAt_1 rfl ?_
  refine z_sipush F dX1_areaAt_2 (by decide) ?_
  refine z_imul F dX1_areaAt_5 ?_
  refine z_bipush F dX1_areaAt_6 (by decide) ?_
  refine z_iadd F dX1_areaAt_8 ?_
  refine z_bald F 0 rfl rfl dX1_areaAt_9 (by omega) (by omega) ?_
  refine z_sipush F dX1_areaAt_10 (by decide) ?_
  refine z_and255 F dX1_areaAt_13 ?_
  exact z_iret F hr dX1_areaAt_14 (by omega) ⟨((z ((h * 512) + 8).toNat) % 256), rfl, rfl, (by omega)⟩
set_option maxHeartbeats 4000000 in
set_option maxRecDepth 20000 in
theorem k_X1_sequenceAt (l : Launch) (D : va_G) (K : KI) (a : Nat) (n : Nat) (z : Nat → Int) (h : Int) (h0 : 1024 ≤ n ∧ n < 2147483648 ∧ 0 ≤ h ∧ h ≤ 1) : Ct lw_T l yX1_sequenceAt cX1_sequenceAt 2 (some .int) { frames := 1, cells := 0, slots := 0, locals := 25 } 0 0 D cls5 (TY K) [.ref a, .int (iZ h)] [aB K a n z] (fun v wo => ∃ (r : Int), v = some (.int (iZ r)) ∧ wo = [aB K a n z] ∧ (-2147483648 ≤ r ∧ r ≤ 2147483647)) := by
  refine ct_of (own := RX1) (lv := [(0, .ref a), (1, .int (iZ h))]) (by decide) rfl (Nat.le_of_ble_eq_true rfl) rfl (fun C F hr hnm hzl => ?_)
  subst hzl
  refine z_aload_n F 0 dX1_sequenceAt_0 rfl ?_
  refine z_iload_n F 1 dX1_sequenceAt_1 rfl ?_
  refine z_sipush F dX1_sequenceAt_2 (by decide) ?_
  refine z_imul F dX1_sequenceAt_5 ?_
  refine z_iconst F dX1_sequenceAt_6 ?_
  refine z_iadd F dX1_sequenceAt_7 ?_
  refine z_iconst F dX1_sequenceAt_8 ?_
  refine z_callS F lw_good (k_X2_read _ D K a n z ((h * 512) + 4) 4 (by omega)) t1_164 t1_8 t1_162 t1_163 ⟨rfl, rfl⟩ ndX2_read ⟨Nat.le_of_ble_eq_true rfl, Nat.le_of_ble_eq_true rfl⟩ (rest := []) rfl (Nat.le_of_ble_eq_true rfl) dX1_sequenceAt_9 ⟨(show 0 + 0 ≤ 0 by omega), (show 0 + 0 ≤ 0 by omega)⟩ (wr := []) ([0] : List Nat) ([] : List Nat) rfl rfl rfl rfl (by decide) (fun v wo hp => ?_)
  obtain ⟨r_1, rfl, rfl, f2⟩ := hp
  refine z_re F (ws' := [aB K a n z]) (st' := [.long r_1]) ([0] : List Nat) rfl rfl rfl ?_
  refine z_l2i F dX1_sequenceAt_12 (fun b3 rb3 eb3 => ?_)
  exact z_iret F hr dX1_sequenceAt_13 (by omega) ⟨b3, rfl, rfl, (by omega)⟩
set_option maxHeartbeats 4000000 in
set_option maxRecDepth 20000 in
theorem k_X1_isGood (l : Launch) (D : va_G) (K : KI) (a : Nat) (n : Nat) (z : Nat → Int) (h : Int) (h0 : 1024 ≤ n ∧ n < 2147483648 ∧ 0 ≤ h ∧ h ≤ 1) : Ct lw_T l yX1_isGood cX1_isGood 5 (some .boolean) { frames := 2, cells := 0, slots := 0, locals := 49 } 0 0 D cls5 (TY K) [.ref a, .int (iZ h)] [aB K a n z] (fun v wo => ∃ (r : Int), v = some (.int (iZ r)) ∧ wo = [aB K a n z] ∧ (r = 0 ∨ r = 1) ∧ (r = 1 → 0 ≤ z (h * 512 + 8).toNat % 256 ∧ z (h * 512 + 8).toNat % 256 ≤ 1) ∧ ((∀ j, z j = 0) → r = 0)) := by
  refine ct_of (own := RX1) (lv := [(0, .ref a), (1, .int (iZ h))]) (by decide) rfl (Nat.le_of_ble_eq_true rfl) rfl (fun C F hr hnm hzl => ?_)
  subst hzl
  refine z_iload_n F 1 dX1_isGood_0 rfl ?_
  refine z_sipush F dX1_isGood_1 (by decide) ?_
  refine z_imul F dX1_isGood_4 ?_
  refine z_istore_n F (lv' := [(2, .int (iZ (h * 512))), (0, .ref a), (1, .int (iZ h))]) dX1_isGood_5 (by decide) rfl ?_
  refine z_aload_n F 1 dX1_isGood_6 rfl ?_
  refine z_iload_n F 0 dX1_isGood_7 rfl ?_
  refine z_iconst F dX1_isGood_8 ?_
  refine z_iadd F dX1_isGood_9 ?_
  refine z_iconst F dX1_isGood_10 ?_
  refine z_callS F lw_good (k_X2_read _ D K a n z ((h * 512) + 4) 4 (by omega)) t1_164 t1_8 t1_162 t1_163 ⟨rfl, rfl⟩ ndX2_read ⟨Nat.le_of_ble_eq_true rfl, Nat.le_of_ble_eq_true rfl⟩ (rest := []) rfl (Nat.le_of_ble_eq_true rfl) dX1_isGood_11 ⟨(show 0 + 0 ≤ 0 by omega), (show 0 + 0 ≤ 0 by omega)⟩ (wr := []) ([0] : List Nat) ([] : List Nat) rfl rfl rfl rfl (by decide) (fun v wo hp => ?_)
  obtain ⟨r_1, rfl, rfl, f2⟩ := hp
  refine z_re F (ws' := [aB K a n z]) (st' := [.long r_1]) ([0] : List Nat) rfl rfl rfl ?_
  have hq0 := f2
  refine z_lstore_n F (lv' := [(3, .long r_1), (2, .int (iZ (h * 512))), (0, .ref a), (1, .int (iZ h))]) dX1_isGood_14 (by decide) rfl ?_
  refine z_lload_n F 0 dX1_isGood_15 rfl ?_
  refine z_ldc2 F t1_165 dX1_isGood_16 ?_
  refine z_lcmp F dX1_isGood_19 (fun b3 rb3 eb3 => ?_)
  refine z_if_ge F 43 dX1_isGood_20 (by decide) (by omega) (fun c4 => ?_) (fun c4 => ?_)
  · refine z_iconst F dX1_isGood_43 ?_
    exact z_zret F hr (by decide) dX1_isGood_44 (by omega) ⟨0, rfl, rfl, (by omega), (by intro _; omega), (by first | exact fun _ => rfl | (intro hz; refine hgz hz ?_; have q := hq0 hz; rw [q] at hql; exact ((iZ_eq (a := 0) ⟨by omega, by omega⟩).mp hql).symm))⟩
  · refine z_lload_n F 0 dX1_isGood_23 rfl ?_
    refine z_ldc2 F t1_166 dX1_isGood_24 ?_
    refine z_lrem F dX1_isGood_27 (by decide) ?_
    refine z_iload_n F 3 dX1_isGood_28 rfl ?_
    refine z_i2l F dX1_isGood_29 ?_
    refine z_lcmp F dX1_isGood_30 (fun b5 rb5 eb5 => ?_)
    refine z_if_ne F 43 dX1_isGood_31 (by decide) (by omega) (fun c6 => ?_) (fun c6 => ?_)
    · refine z_iconst F dX1_isGood_43 ?_
      exact z_zret F hr (by decide) dX1_isGood_44 (by omega) ⟨0, rfl, rfl, (by omega), (by intro _; omega), (by first | exact fun _ => rfl | (intro hz; refine hgz hz ?_; have q := hq0 hz; rw [q] at hql; exact ((iZ_eq (a := 0) ⟨by omega, by omega⟩).mp hql).symm))⟩
    · refine z_aload_n F 2 dX1_isGood_34 rfl ?_
      refine z_iload_n F 3 dX1_isGood_35 rfl ?_
      refine z_callS F lw_good (k_X1_areaAt _ D K a n z h h0) t1_169 t1_7 t1_167 t1_168 ⟨rfl, rfl⟩ ndX1_areaAt ⟨Nat.le_of_ble_eq_true rfl, Nat.le_of_ble_eq_true rfl⟩ (rest := []) rfl (Nat.le_of_ble_eq_true rfl) dX1_isGood_36 ⟨(show 0 + 0 ≤ 0 by omega), (show 0 + 0 ≤ 0 by omega)⟩ (wr := []) ([0] : List Nat) ([] : List Nat) rfl rfl rfl rfl (by decide) (fun v wo hp => ?_)
      obtain ⟨r_7, rfl, rfl, f8⟩ := hp
      refine z_re F (ws' := [aB K a n z]) (st' := [.int (iZ r_7)]) ([0] : List Nat) rfl rfl rfl ?_
      refine z_iconst F dX1_isGood_39 ?_
      refine z_icmp_le F 45 dX1_isGood_40 (by decide) (by omega) (fun c9 => ?_) (fun c9 => ?_)
      · refine z_aload_n F 2 dX1_isGood_45 rfl ?_
        refine z_iload_n F 1 dX1_isGood_46 rfl ?_
        refine z_sipush F dX1_isGood_47 (by decide) ?_
        refine z_lload_n F 0 dX1_isGood_50 rfl ?_
        refine z_l2i F dX1_isGood_51 (fun b10 rb10 eb10 => ?_)
        refine z_callS F lw_good (k_X2_hasSum _ D K a n z (h * 512) 508 b10 (by omega)) t1_172 t1_8 t1_170 t1_171 ⟨rfl, rfl⟩ ndX2_hasSum ⟨Nat.le_of_ble_eq_true rfl, Nat.le_of_ble_eq_true rfl⟩ (rest := []) rfl (Nat.le_of_ble_eq_true rfl) dX1_isGood_52 ⟨(show 0 + 0 ≤ 0 by omega), (show 0 + 0 ≤ 0 by omega)⟩ (wr := []) ([0] : List Nat) ([] : List Nat) rfl rfl rfl rfl (by decide) (fun v wo hp => ?_)
        obtain ⟨r_11, rfl, rfl, f12, f13⟩ := hp
        refine z_re F (ws' := [aB K a n z]) (st' := [.int (iZ r_11)]) ([0] : List Nat) rfl rfl rfl ?_
        have hgr := f12; have hgz := f13; have hql := eb10
        exact z_zret F hr (nar01 hgr) dX1_isGood_55 (by omega) ⟨r_11, rfl, rfl, f12, (by intro _; omega), (by first | exact fun _ => rfl | (intro hz; refine hgz hz ?_; have q := hq0 hz; rw [q] at hql; exact ((iZ_eq (a := 0) ⟨by omega, by omega⟩).mp hql).symm))⟩
      · refine z_iconst F dX1_isGood_43 ?_
        exact z_zret F hr (by decide) dX1_isGood_44 (by omega) ⟨0, rfl, rfl, (by omega), (by intro _; omega), (by first | exact fun _ => rfl | (intro hz; refine hgz hz ?_; have q := hq0 hz; rw [q] at hql; exact ((iZ_eq (a := 0) ⟨by omega, by omega⟩).mp hql).symm))⟩
set_option maxHeartbeats 4000000 in
set_option maxRecDepth 20000 in
theorem k_X1_counting (l : Launch) (D : va_G) (K : KI) (a : Nat) (n : Nat) (z : Nat → Int) (h0 : 1024 ≤ n ∧ n < 2147483648) : Ct lw_T l yX1_counting cX1_counting 3 (some .int) { frames := 3, cells := 0, slots := 0, locals := 73 } 0 0 D cls5 (TY K) [.ref a] [aB K a n z] (fun v wo => ∃ (r : Int), v = some (.int (iZ r)) ∧ wo = [aB K a n z] ∧ (r = -1 ∨ ((r = 0 ∨ r = 1) ∧ 0 ≤ z (r * 512 + 8).toNat % 256 ∧ z (r * 512 + 8).toNat % 256 ≤ 1)) ∧ ((∀ j, z j = 0) → r = -1)) := by
  refine ct_of (own := RX1) (lv := [(0, .ref a)]) (by decide) rfl (Nat.le_of_ble_eq_true rfl) rfl (fun C F hr hnm hzl => ?_)
  subst hzl
  refine z_iconst F dX1_counting_0 ?_
  refine z_istore_n F (lv' := [(1, .int (iZ (-1))), (0, .ref a)]) dX1_counting_1 (by decide) rfl ?_
  refine z_iconst F dX1_counting_2 ?_
  refine z_istore_n F (lv' := [(2, .int (iZ 0)), (1, .int (iZ (-1))), (0, .ref a)]) dX1_counting_3 (by decide) rfl ?_
  have lp4 : ∀ (nn : Nat) (be : Int) (i : Int), (0 ≤ i ∧ i ≤ 2) → (be = -1 ∨ ((be = 0 ∨ be = 1) ∧ 0 ≤ z (be * 512 + 8).toNat % 256 ∧ z (be * 512 + 8).toNat % 256 ≤ 1)) → ((∀ j, z j = 0) → be = -1) → ((2 - i : Int).toNat < nn) → Go C { frames := 3, cells := 0, slots := 0, locals := 73 } D cls5 3 0 0 [aB K a n z] 4 [(2, .int (iZ i)), (1, .int (iZ be)), (0, .ref a)] [] := by
    intro nn
    induction nn with
    | zero => intro be i g4_0 g4_1 g4_2 hmu; exact absurd hmu (Nat.not_lt_zero _)
    | succ nn ih =>
      intro be i g4_0 g4_1 g4_2 hmu
      refine z_iload_n F 0 dX1_counting_4 rfl ?_
      refine z_iconst F dX1_counting_5 ?_
      refine z_icmp_ge F 43 dX1_counting_6 (by decide) (by omega) (fun c1 => ?_) (fun c1 => ?_)
      · refine z_iload_n F 1 dX1_counting_43 rfl ?_
        exact z_iret F hr dX1_counting_44 (by omega) ⟨be, rfl, rfl, g4_1, g4_2⟩
      · refine z_aload_n F 2 dX1_counting_9 rfl ?_
        refine z_iload_n F 0 dX1_counting_10 rfl ?_
        refine z_callS F lw_good (k_X1_isGood _ D K a n z i (by omega)) t1_161 t1_7 t1_159 t1_160 ⟨rfl, rfl⟩ ndX1_isGood ⟨Nat.le_of_ble_eq_true rfl, Nat.le_of_ble_eq_true rfl⟩ (rest := []) rfl (Nat.le_of_ble_eq_true rfl) dX1_counting_11 ⟨(show 0 + 0 ≤ 0 by omega), (show 0 + 0 ≤ 0 by omega)⟩ (wr := []) ([0] : List Nat) ([] : List Nat) rfl rfl rfl rfl (by decide) (fun v wo hp => ?_)
        obtain ⟨r_2, rfl, rfl, f3, f4, f5⟩ := hp
        refine z_re F (ws' := [aB K a n z]) (st' := [.int (iZ r_2)]) ([0] : List Nat) rfl rfl rfl ?_
        have hgr := f3; have hg1 := f4; have hgz := f5
        refine z_if_eq F 37 dX1_counting_14 (by decide) (by omega) (fun c6 => ?_) (fun c6 => ?_)
        · refine z_iinc F (lv' := [(2, .int (iZ (i + 1))), (1, .int (iZ be)), (0, .ref a)]) 0 dX1_counting_37 rfl (by decide) rfl ?_
          refine z_goto F 4 dX1_counting_40 (by decide) ?_
          exact ih be (i + 1) (by omega) (by first | assumption | (right; refine ⟨by omega, hg1 (by omega)⟩)) (by first | assumption | exact fun hz => absurd (hgz hz) (by omega)) (by omega)
        · refine z_iload_n F 1 dX1_counting_17 rfl ?_
          refine z_iconst F dX1_counting_18 ?_
          refine z_icmp_eq F 35 dX1_counting_19 (by decide) (by omega) (fun c7 => ?_) (fun c7 => ?_)
          · refine z_iload_n F 0 dX1_counting_35 rfl ?_
            refine z_istore_n F (lv' := [(1, .int (iZ i)), (2, .int (iZ i)), (0, .ref a)]) dX1_counting_36 (by decide) rfl ?_
            refine z_iinc F (lv' := [(2, .int (iZ (i + 1))), (1, .int (iZ i)), (0, .ref a)]) 1 dX1_counting_37 rfl (by decide) rfl ?_
            refine z_goto F 4 dX1_counting_40 (by decide) ?_
            exact ih i (i + 1) (by omega) (by first | assumption | (right; refine ⟨by omega, hg1 (by omega)⟩)) (by first | assumption | exact fun hz => absurd (hgz hz) (by omega)) (by omega)
          · refine z_aload_n F 2 dX1_counting_22 rfl ?_
            refine z_iload_n F 0 dX1_counting_23 rfl ?_
            refine z_callS F lw_good (k_X1_sequenceAt _ D K a n z i (by omega)) t1_180 t1_7 t1_178 t1_179 ⟨rfl, rfl⟩ ndX1_sequenceAt ⟨Nat.le_of_ble_eq_true rfl, Nat.le_of_ble_eq_true rfl⟩ (rest := []) rfl (Nat.le_of_ble_eq_true rfl) dX1_counting_24 ⟨(show 0 + 0 ≤ 0 by omega), (show 0 + 0 ≤ 0 by omega)⟩ (wr := []) ([0] : List Nat) ([] : List Nat) rfl rfl rfl rfl (by decide) (fun v wo hp => ?_)
            obtain ⟨r_8, rfl, rfl, f9⟩ := hp
            refine z_re F (ws' := [aB K a n z]) (st' := [.int (iZ r_8)]) ([0] : List Nat) rfl rfl rfl ?_
            refine z_aload_n F 2 dX1_counting_27 rfl ?_
            refine z_iload_n F 1 dX1_counting_28 rfl ?_
            refine z_callS F lw_good (k_X1_sequenceAt _ D K a n z be (by omega)) t1_180 t1_7 t1_178 t1_179 ⟨rfl, rfl⟩ ndX1_sequenceAt ⟨Nat.le_of_ble_eq_true rfl, Nat.le_of_ble_eq_true rfl⟩ (rest := [.int (iZ r_8)]) rfl (Nat.le_of_ble_eq_true rfl) dX1_counting_29 ⟨(show 0 + 0 ≤ 0 by omega), (show 0 + 0 ≤ 0 by omega)⟩ (wr := []) ([0] : List Nat) ([] : List Nat) rfl rfl rfl rfl (by decide) (fun v wo hp => ?_)
            obtain ⟨r_10, rfl, rfl, f11⟩ := hp
            refine z_re F (ws' := [aB K a n z]) (st' := [.int (iZ r_10), .int (iZ r_8)]) ([0] : List Nat) rfl rfl rfl ?_
            refine z_icmp_le F 37 dX1_counting_32 (by decide) (by omega) (fun c12 => ?_) (fun c12 => ?_)
            · refine z_iinc F (lv' := [(2, .int (iZ (i + 1))), (1, .int (iZ be)), (0, .ref a)]) 0 dX1_counting_37 rfl (by decide) rfl ?_
              refine z_goto F 4 dX1_counting_40 (by decide) ?_
              exact ih be (i + 1) (by omega) (by first | assumption | (right; refine ⟨by omega, hg1 (by omega)⟩)) (by first | assumption | exact fun hz => absurd (hgz hz) (by omega)) (by omega)
            · refine z_iload_n F 0 dX1_counting_35 rfl ?_
              refine z_istore_n F (lv' := [(1, .int (iZ i)), (2, .int (iZ i)), (0, .ref a)]) dX1_counting_36 (by decide) rfl ?_
              refine z_iinc F (lv' := [(2, .int (iZ (i + 1))), (1, .int (iZ i)), (0, .ref a)]) 1 dX1_counting_37 rfl (by decide) rfl ?_
              refine z_goto F 4 dX1_counting_40 (by decide) ?_
              exact ih i (i + 1) (by omega) (by first | assumption | (right; refine ⟨by omega, hg1 (by omega)⟩)) (by first | assumption | exact fun hz => absurd (hgz hz) (by omega)) (by omega)
  exact lp4 ((2 - 0 : Int).toNat + 1) (-1) 0 (by omega) (by omega) (fun _ => rfl) (Nat.lt_succ_self _)
set_option maxHeartbeats 4000000 in
set_option maxRecDepth 20000 in
theorem k_X1_write (l : Launch) (D : va_G) (K : KI) (a : Nat) (n : Nat) (z : Nat → Int) (pa : Int) (ed : Int) (sq : Int) (ar : Int) (h0 : n < 2147483648 ∧ 0 ≤ pa ∧ pa + 512 ≤ n) (h1 : rng (-128) 127 z) : Ct lw_T l yX1_write cX1_write 5 none { frames := 2, cells := 0, slots := 0, locals := 49 } 0 0 D cls5 (TY K) [.ref a, .int (iZ pa), .int (iZ ed), .int (iZ sq), .int (iZ ar)] [aB K a n z] (fun v wo => ∃ (z2 : Nat → Int), v = none ∧ wo = [aB K a n z2] ∧ (rng (-128) 127 z2)) := by
  refine ct_of (own := RX1) (lv := [(0, .ref a), (1, .int (iZ pa)), (2, .int (iZ ed)), (3, .int (iZ sq)), (4, .int (iZ ar))]) (by decide) rfl (Nat.le_of_ble_eq_true rfl) rfl (fun C F hr hnm hzl => ?_)
  subst hzl
  refine z_aload_n F 0 dX1_write_0 rfl ?_
  refine z_iload_n F 1 dX1_write_1 rfl ?_
  refine z_iconst F dX1_write_2 ?_
  refine z_iload_n F 2 dX1_write_3 rfl ?_
  refine z_i2l F dX1_write_4 ?_
  refine z_callS F lw_good (k_X2_write _ D K a n z pa 4 ((iZ ed).toInt64) (by omega) h1) t2_36 t1_8 t2_34 t2_35 ⟨rfl, rfl⟩ ndX2_write ⟨Nat.le_of_ble_eq_true rfl, Nat.le_of_ble_eq_true rfl⟩ (rest := []) rfl (Nat.le_of_ble_eq_true rfl) dX1_write_5 ⟨(show 0 + 0 ≤ 0 by omega), (show 0 + 0 ≤ 0 by omega)⟩ (wr := []) ([0] : List Nat) ([] : List Nat) rfl rfl rfl rfl (by decide) (fun v wo hp => ?_)
  obtain ⟨z2_1, rfl, rfl, f2⟩ := hp
  refine z_re F (ws' := [aB K a n z2_1]) (st' := []) ([0] : List Nat) rfl rfl rfl ?_
  refine z_aload_n F 0 dX1_write_8 rfl ?_
  refine z_iload_n F 1 dX1_write_9 rfl ?_
  refine z_iconst F dX1_write_10 ?_
  refine z_iadd F dX1_write_11 ?_
  refine z_iconst F dX1_write_12 ?_
  refine z_iload_n F 3 dX1_write_13 rfl ?_
  refine z_i2l F dX1_write_14 ?_
  refine z_callS F lw_good (k_X2_write _ D K a n z2_1 (pa + 4) 4 ((iZ sq).toInt64) (by omega) f2) t2_36 t1_8 t2_34 t2_35 ⟨rfl, rfl⟩ ndX2_write ⟨Nat.le_of_ble_eq_true rfl, Nat.le_of_ble_eq_true rfl⟩ (rest := []) rfl (Nat.le_of_ble_eq_true rfl) dX1_write_15 ⟨(show 0 + 0 ≤ 0 by omega), (show 0 + 0 ≤ 0 by omega)⟩ (wr := []) ([0] : List Nat) ([] : List Nat) rfl rfl rfl rfl (by decide) (fun v wo hp => ?_)
  obtain ⟨z2_3, rfl, rfl, f4⟩ := hp
  refine z_re F (ws' := [aB K a n z2_3]) (st' := []) ([0] : List Nat) rfl rfl rfl ?_
  refine z_aload_n F 0 dX1_write_18 rfl ?_
  refine z_iload_n F 1 dX1_write_19 rfl ?_
  refine z_bipush F dX1_write_20 (by decide) ?_
  refine z_iadd F dX1_write_22 ?_
  refine z_iload F 4 dX1_write_23 rfl ?_
  refine z_i2b F dX1_write_25 ?_
  refine z_bast F (ws' := [aB K a n (zu z2_3 (pa + 8).toNat ((ar.bmod 256).bmod 256))]) 0 rfl rfl dX1_write_26 (by omega) (by omega) rfl ?_
  have r5 : rng (-128) 127 (zu z2_3 (pa + 8).toNat ((ar.bmod 256).bmod 256)) := rng_zu f4 (bm_r _)
  refine z_aload_n F 0 dX1_write_27 rfl ?_
  refine z_iload_n F 1 dX1_write_28 rfl ?_
  refine z_sipush F dX1_write_29 (by decide) ?_
  refine z_iload_n F 3 dX1_write_32 rfl ?_
  refine z_callS F lw_good (k_X2_writeSum _ D K a n (zu z2_3 (pa + 8).toNat ((ar.bmod 256).bmod 256)) pa 508 sq (by omega) r5) t2_39 t1_8 t2_37 t2_38 ⟨rfl, rfl⟩ ndX2_writeSum ⟨Nat.le_of_ble_eq_true rfl, Nat.le_of_ble_eq_true rfl⟩ (rest := []) rfl (Nat.le_of_ble_eq_true rfl) dX1_write_33 ⟨(show 0 + 0 ≤ 0 by omega), (show 0 + 0 ≤ 0 by omega)⟩ (wr := []) ([0] : List Nat) ([] : List Nat) rfl rfl rfl rfl (by decide) (fun v wo hp => ?_)
  obtain ⟨z2_6, rfl, rfl, f7⟩ := hp
  refine z_re F (ws' := [aB K a n z2_6]) (st' := []) ([0] : List Nat) rfl rfl rfl ?_
  exact z_vret F hr dX1_write_36 (by omega) ⟨z2_6, rfl, rfl, f7⟩
end
section
set_option maxHeartbeats 4000000 in
set_option maxRecDepth 20000 in
theorem k_X0_bring (l : Launch) (D : va_G) (K : KI) (d : Nat) (sc : Int) (db : Nat) (dq : Nat) (dt : Nat) (wc : Int) (nb : Nat) (zb : Nat → Int) (zq : Nat → Int) (zt : Nat → Int) (wh : Int) (tn : Int) (h0 : 4 ≤ sc ∧ sc ≤ 40 ∧ (nb : Int) = 512 * sc) (h1 : rng (-128) 127 zb) (h2 : rng (-128) 127 zq) (h3 : rng 0 (sc-1) zt) (h4 : 0 ≤ wc ∧ wc ≤ 64) (h5 : 0 ≤ wh ∧ wh ≤ 2147483647 ∧ 0 ≤ tn ∧ tn ≤ 512) : Ct lw_T l yX0_bring cX0_bring 6 (some .int) { frames := 1, cells := 0, slots := 0, locals := 40 } 0 0 D cls5 (TY K) [.ref d, .int (iZ wh), .int (iZ tn)] [oX0 d sc db dq dt wc, aB K db nb zb, aB K dq 32768 zq, aI K dt 64 zt] (fun v wo => ∃ (r : Int), ∃ (zb2 : Nat → Int), v = some (.int (iZ r)) ∧ wo = [oX0 d sc db dq dt 0, aB K db nb zb2, aB K dq 32768 zq, aI K dt 64 zt] ∧ (r = min wh wc) ∧ (rng (-128) 127 zb2)) := by
  refine ct_of (own := RX0) (lv := [(0, .ref d), (1, .int (iZ wh)), (2, .int (iZ tn))]) (by decide) rfl (Nat.le_of_ble_eq_true rfl) rfl (fun C F hr hnm hzl => ?_)
  subst hzl
  refine z_iload_n F 1 dX0_bring_0 rfl ?_
  refine z_aload_n F 0 dX0_bring_1 rfl ?_
  refine z_get F 0 4 iX0 rfl rfl (by decide) t1_43 rfl dX0_bring_2 ?_
  refine z_min F t1_220 t1_27 t1_2 t1_28 (Nat.le_of_ble_eq_true rfl) (Nat.le_of_ble_eq_true rfl) ⟨(show 0 + 0 ≤ 0 by omega), (show 0 + 0 ≤ 0 by omega)⟩ (by omega) dX0_bring_5 ?_
  refine z_nm F (fun q1 eq1 => ?_)
  refine z_istore_n F (lv' := [(3, .int (iZ q1)), (0, .ref d), (1, .int (iZ wh)), (2, .int (iZ tn))]) dX0_bring_8 (by decide) rfl ?_
  refine z_iconst F dX0_bring_9 ?_
  refine z_istore F (lv' := [(4, .int (iZ 0)), (3, .int (iZ q1)), (0, .ref d), (1, .int (iZ wh)), (2, .int (iZ tn))]) dX0_bring_10 (by decide) rfl ?_
  have lp12 : ∀ (nn : Nat) (i : Int) (w : Nat → Int), (0 ≤ i ∧ i ≤ wc) → (rng (-128) 127 w) → ((wc - i : Int).toNat < nn) → Go C { frames := 1, cells := 0, slots := 0, locals := 40 } D cls5 6 0 0 [oX0 d sc db dq dt wc, aB K db nb w, aB K dq 32768 zq, aI K dt 64 zt] 12 [(4, .int (iZ i)), (3, .int (iZ q1)), (0, .ref d), (1, .int (iZ wh)), (2, .int (iZ tn))] [] := by
    intro nn
    induction nn with
    | zero => intro i w g12_0 g12_1 hmu; exact absurd hmu (Nat.not_lt_zero _)
    | succ nn ih =>
      intro i w g12_0 g12_1 hmu
      refine z_iload F 0 dX0_bring_12 rfl ?_
      refine z_iload_n F 1 dX0_bring_14 rfl ?_
      refine z_icmp_gt F 78 dX0_bring_15 (by decide) (by omega) (fun c2 => ?_) (fun c2 => ?_)
      · refine z_aload_n F 2 dX0_bring_78 rfl ?_
        refine z_iconst F dX0_bring_79 ?_
        refine z_put F (ws' := [oX0 d sc db dq dt 0, aB K db nb w, aB K dq 32768 zq, aI K dt 64 zt]) 0 4 iX0 tyX0 tyX0_ok nmX0 rfl rfl (by decide) t1_43 rfl rfl rfl rfl (Nat.le_of_ble_eq_true rfl) dX0_bring_80 rfl ?_
        refine z_iload_n F 1 dX0_bring_83 rfl ?_
        exact z_iret F hr dX0_bring_84 (by omega) ⟨q1, w, rfl, rfl, (by omega), g12_1⟩
      · refine z_iload F 0 dX0_bring_18 rfl ?_
        refine z_aload_n F 2 dX0_bring_20 rfl ?_
        refine z_get F 0 4 iX0 rfl rfl (by decide) t1_43 rfl dX0_bring_21 ?_
        refine z_icmp_ge F 78 dX0_bring_24 (by decide) (by omega) (fun c3 => ?_) (fun c3 => ?_)
        · refine z_aload_n F 2 dX0_bring_78 rfl ?_
          refine z_iconst F dX0_bring_79 ?_
          refine z_put F (ws' := [oX0 d sc db dq dt 0, aB K db nb w, aB K dq 32768 zq, aI K dt 64 zt]) 0 4 iX0 tyX0 tyX0_ok nmX0 rfl rfl (by decide) t1_43 rfl rfl rfl rfl (Nat.le_of_ble_eq_true rfl) dX0_bring_80 rfl ?_
          refine z_iload_n F 1 dX0_bring_83 rfl ?_
          exact z_iret F hr dX0_bring_84 (by omega) ⟨q1, w, rfl, rfl, (by omega), g12_1⟩
        · refine z_iload F 0 dX0_bring_27 rfl ?_
          refine z_iload_n F 1 dX0_bring_29 rfl ?_
          refine z_icmp_ge F 39 dX0_bring_30 (by decide) (by omega) (fun c4 => ?_) (fun c4 => ?_)
          · refine z_iload_n F 4 dX0_bring_39 rfl ?_
            refine z_istore F (lv' := [(5, .int (iZ tn)), (4, .int (iZ i)), (3, .int (iZ q1)), (0, .ref d), (1, .int (iZ wh)), (2, .int (iZ tn))]) dX0_bring_40 (by decide) rfl ?_
            refine z_aload_n F 3 dX0_bring_42 rfl ?_
            refine z_get F 0 2 iX0 rfl rfl (by decide) t1_40 rfl dX0_bring_43 ?_
            refine z_iload F 1 dX0_bring_46 rfl ?_
            refine z_sipush F dX0_bring_48 (by decide) ?_
            refine z_imul F dX0_bring_51 ?_
            refine z_aload_n F 3 dX0_bring_52 rfl ?_
            refine z_get F 0 1 iX0 rfl rfl (by decide) t1_38 rfl dX0_bring_53 ?_
            refine z_aload_n F 3 dX0_bring_56 rfl ?_
            refine z_get F 0 3 iX0 rfl rfl (by decide) t1_42 rfl dX0_bring_57 ?_
            refine z_iload F 1 dX0_bring_60 rfl ?_
            refine z_iald F 3 rfl rfl dX0_bring_62 (by omega) (by omega) ?_
            have r5 : 0 ≤ zt i.toNat ∧ zt i.toNat ≤ (sc-1) := h3 _
            refine z_sipush F dX0_bring_63 (by decide) ?_
            refine z_imul F dX0_bring_66 ?_
            refine z_iload F 0 dX0_bring_67 rfl ?_
            refine z_copy F (ws' := [oX0 d sc db dq dt wc, aB K db nb (va_cpy zq w (i * 512).toNat ((zt i.toNat) * 512).toNat tn.toNat), aB K dq 32768 zq, aI K dt 64 zt]) 2 1 1 rfl rfl rfl rfl t1_221 t1_223 t1_222 t1_9 (by omega) (fun i _ => fitB (h2 _)) (Nat.le_of_ble_eq_true rfl) (Nat.le_of_ble_eq_true rfl) dX0_bring_69 rfl ?_
            have r6 : rng (-128) 127 (va_cpy zq w (i * 512).toNat ((zt i.toNat) * 512).toNat tn.toNat) := rng_cpy h2 g12_1
            refine z_iinc F (lv' := [(4, .int (iZ (i + 1))), (5, .int (iZ tn)), (3, .int (iZ q1)), (0, .ref d), (1, .int (iZ wh)), (2, .int (iZ tn))]) 1 dX0_bring_72 rfl (by decide) rfl ?_
            refine z_goto F 12 dX0_bring_75 (by decide) ?_
            refine z_lv F (lv' := [(4, .int (iZ (i + 1))), (3, .int (iZ q1)), (0, .ref d), (1, .int (iZ wh)), (2, .int (iZ tn))]) [0, 2, 3, 4, 5] rfl ?_
            exact ih (i + 1) (va_cpy zq w (i * 512).toNat ((zt i.toNat) * 512).toNat tn.toNat) (by omega) r6 (by omega)
          · refine z_sipush F dX0_bring_33 (by decide) ?_
            refine z_goto F 40 dX0_bring_36 (by decide) ?_
            refine z_istore F (lv' := [(5, .int (iZ 512)), (4, .int (iZ i)), (3, .int (iZ q1)), (0, .ref d), (1, .int (iZ wh)), (2, .int (iZ tn))]) dX0_bring_40 (by decide) rfl ?_
            refine z_aload_n F 3 dX0_bring_42 rfl ?_
            refine z_get F 0 2 iX0 rfl rfl (by decide) t1_40 rfl dX0_bring_43 ?_
            refine z_iload F 1 dX0_bring_46 rfl ?_
            refine z_sipush F dX0_bring_48 (by decide) ?_
            refine z_imul F dX0_bring_51 ?_
            refine z_aload_n F 3 dX0_bring_52 rfl ?_
            refine z_get F 0 1 iX0 rfl rfl (by decide) t1_38 rfl dX0_bring_53 ?_
            refine z_aload_n F 3 dX0_bring_56 rfl ?_
            refine z_get F 0 3 iX0 rfl rfl (by decide) t1_42 rfl dX0_bring_57 ?_
            refine z_iload F 1 dX0_bring_60 rfl ?_
            refine z_iald F 3 rfl rfl dX0_bring_62 (by omega) (by omega) ?_
            have r7 : 0 ≤ zt i.toNat ∧ zt i.toNat ≤ (sc-1) := h3 _
            refine z_sipush F dX0_bring_63 (by decide) ?_
            refine z_imul F dX0_bring_66 ?_
            refine z_iload F 0 dX0_bring_67 rfl ?_
            refine z_copy F (ws' := [oX0 d sc db dq dt wc, aB K db nb (va_cpy zq w (i * 512).toNat ((zt i.toNat) * 512).toNat (512 : Int).toNat), aB K dq 32768 zq, aI K dt 64 zt]) 2 1 1 rfl rfl rfl rfl t1_221 t1_223 t1_222 t1_9 (by omega) (fun i _ => fitB (h2 _)) (Nat.le_of_ble_eq_true rfl) (Nat.le_of_ble_eq_true rfl) dX0_bring_69 rfl ?_
            have r8 : rng (-128) 127 (va_cpy zq w (i * 512).toNat ((zt i.toNat) * 512).toNat (512 : Int).toNat) := rng_cpy h2 g12_1
            refine z_iinc F (lv' := [(4, .int (iZ (i + 1))), (5, .int (iZ 512)), (3, .int (iZ q1)), (0, .ref d), (1, .int (iZ wh)), (2, .int (iZ tn))]) 1 dX0_bring_72 rfl (by decide) rfl ?_
            refine z_goto F 12 dX0_bring_75 (by decide) ?_
            refine z_lv F (lv' := [(4, .int (iZ (i + 1))), (3, .int (iZ q1)), (0, .ref d), (1, .int (iZ wh)), (2, .int (iZ tn))]) [0, 2, 3, 4, 5] rfl ?_
            exact ih (i + 1) (va_cpy zq w (i * 512).toNat ((zt i.toNat) * 512).toNat (512 : Int).toNat) (by omega) r8 (by omega)
  exact lp12 ((wc - 0 : Int).toNat + 1) 0 zb (by omega) h1 (Nat.lt_succ_self _)
set_option maxHeartbeats 4000000 in
set_option maxRecDepth 20000 in
theorem k_X0_addTarget (l : Launch) (D : va_G) (K : KI) (d : Nat) (sc : Int) (db : Nat) (dq : Nat) (dt : Nat) (wc : Int) (zt : Nat → Int) (tg : Int) (h0 : 0 ≤ wc ∧ wc ≤ 63) (h1 : rng 0 (sc-1) zt) (h2 : 0 ≤ tg ∧ tg ≤ sc - 1) : Ct lw_T l yX0_addTarget cX0_addTarget 3 (some .int) { frames := 0, cells := 0, slots := 0, locals := 0 } 0 0 D cls5 (TY K) [.ref d, .int (iZ tg)] [oX0 d sc db dq dt wc, aI K dt 64 zt] (fun v wo => ∃ (r : Int), ∃ (zt2 : Nat → Int), v = some (.int (iZ r)) ∧ wo = [oX0 d sc db dq dt (wc + 1), aI K dt 64 zt2] ∧ (r = wc * 512) ∧ (rng 0 (sc-1) zt2)) := by
  refine ct_of (own := RX0) (lv := [(0, .ref d), (1, .int (iZ tg))]) (by decide) rfl (Nat.le_of_ble_eq_true rfl) rfl (fun C F hr hnm hzl => ?_)
  subst hzl
  refine z_aload_n F 0 dX0_addTarget_0 rfl ?_
  refine z_get F 0 4 iX0 rfl rfl (by decide) t1_43 rfl dX0_addTarget_1 ?_
  refine z_sipush F dX0_addTarget_4 (by decide) ?_
  refine z_imul F dX0_addTarget_7 ?_
  refine z_istore_n F (lv' := [(2, .int (iZ (wc * 512))), (0, .ref d), (1, .int (iZ tg))]) dX0_addTarget_8 (by decide) rfl ?_
  refine z_aload_n F 1 dX0_addTarget_9 rfl ?_
  refine z_get F 0 3 iX0 rfl rfl (by decide) t1_42 rfl dX0_addTarget_10 ?_
  refine z_aload_n F 1 dX0_addTarget_13 rfl ?_
  refine z_get F 0 4 iX0 rfl rfl (by decide) t1_43 rfl dX0_addTarget_14 ?_
  refine z_iload_n F 2 dX0_addTarget_17 rfl ?_
  refine z_iast F (ws' := [oX0 d sc db dq dt wc, aI K dt 64 (zu zt wc.toNat tg)]) 1 rfl rfl dX0_addTarget_18 (by omega) (by omega) rfl ?_
  have r1 : rng 0 (sc-1) (zu zt wc.toNat tg) := rng_zu h1 (by omega)
  refine z_aload_n F 1 dX0_addTarget_19 rfl ?_
  refine z_dup F dX0_addTarget_20 rfl ?_
  refine z_get F 0 4 iX0 rfl rfl (by decide) t1_43 rfl dX0_addTarget_21 ?_
  refine z_iconst F dX0_addTarget_24 ?_
  refine z_iadd F dX0_addTarget_25 ?_
  refine z_put F (ws' := [oX0 d sc db dq dt (wc + 1), aI K dt 64 (zu zt wc.toNat tg)]) 0 4 iX0 tyX0 tyX0_ok nmX0 rfl rfl (by decide) t1_43 rfl rfl rfl rfl (Nat.le_of_ble_eq_true rfl) dX0_addTarget_26 rfl ?_
  refine z_iload_n F 0 dX0_addTarget_29 rfl ?_
  exact z_iret F hr dX0_addTarget_30 (by omega) ⟨(wc * 512), (zu zt wc.toNat tg), rfl, rfl, (by omega), r1⟩
set_option maxHeartbeats 4000000 in
set_option maxRecDepth 20000 in
theorem k_X0_waitWithZeros (l : Launch) (D : va_G) (K : KI) (d : Nat) (sc : Int) (db : Nat) (dq : Nat) (dt : Nat) (wc : Int) (nb : Nat) (zb : Nat → Int) (zq : Nat → Int) (zt : Nat → Int) (tg : Int) (h0 : 4 ≤ sc ∧ sc ≤ 40 ∧ (nb : Int) = 512 * sc) (h1 : rng (-128) 127 zb) (h2 : rng (-128) 127 zq) (h3 : rng 0 (sc-1) zt) (h4 : 0 ≤ wc ∧ wc ≤ 64) (h5 : 0 ≤ tg ∧ tg ≤ sc - 1) : Ct lw_T l yX0_waitWithZeros cX0_waitWithZeros 4 (some .int) { frames := 2, cells := 0, slots := 0, locals := 65 } 0 0 D cls5 (TY K) [.ref d, .int (iZ tg)] [oX0 d sc db dq dt wc, aB K db nb zb, aB K dq 32768 zq, aI K dt 64 zt] (fun v wo => ∃ (r : Int), ∃ (wc2 : Int), ∃ (zb2 : Nat → Int), ∃ (zq2 : Nat → Int), ∃ (zt2 : Nat → Int), v = some (.int (iZ r)) ∧ wo = [oX0 d sc db dq dt wc2, aB K db nb zb2, aB K dq 32768 zq2, aI K dt 64 zt2] ∧ (0 ≤ r ∧ r + 512 ≤ 32768) ∧ (1 ≤ wc2 ∧ wc2 ≤ 64) ∧ (rng (-128) 127 zb2) ∧ (rng (-128) 127 zq2) ∧ (rng 0 (sc-1) zt2)) := by
  refine ct_of (own := RX0) (lv := [(0, .ref d), (1, .int (iZ tg))]) (by decide) rfl (Nat.le_of_ble_eq_true rfl) rfl (fun C F hr hnm hzl => ?_)
  subst hzl
  refine z_aload_n F 0 dX0_waitWithZeros_0 rfl ?_
  refine z_get F 0 4 iX0 rfl rfl (by decide) t1_43 rfl dX0_waitWithZeros_1 ?_
  refine z_bipush F dX0_waitWithZeros_4 (by decide) ?_
  have lp17 : ∀ (w1 : Int) (b1 : Nat → Int), (0 ≤ w1 ∧ w1 ≤ 63) → (rng (-128) 127 b1) → Go C { frames := 2, cells := 0, slots := 0, locals := 65 } D cls5 4 0 0 [oX0 d sc db dq dt w1, aB K db nb b1, aB K dq 32768 zq, aI K dt 64 zt] 17 [(0, .ref d), (1, .int (iZ tg))] [] := by
    intro w1 b1 g17_0 g17_1
    refine z_aload_n F 0 dX0_waitWithZeros_17 rfl ?_
    refine z_get F 0 4 iX0 rfl rfl (by decide) t1_43 rfl dX0_waitWithZeros_18 ?_
    refine z_sipush F dX0_waitWithZeros_21 (by decide) ?_
    refine z_imul F dX0_waitWithZeros_24 ?_
    refine z_istore_n F (lv' := [(2, .int (iZ (w1 * 512))), (0, .ref d), (1, .int (iZ tg))]) dX0_waitWithZeros_25 (by decide) rfl ?_
    refine z_iconst F dX0_waitWithZeros_26 ?_
    refine z_istore_n F (lv' := [(3, .int (iZ 0)), (2, .int (iZ (w1 * 512))), (0, .ref d), (1, .int (iZ tg))]) dX0_waitWithZeros_27 (by decide) rfl ?_
    have lp28 : ∀ (nn : Nat) (i : Int) (q1 : Nat → Int), (0 ≤ i ∧ i ≤ 512) → (rng (-128) 127 q1) → ((512 - i : Int).toNat < nn) → Go C { frames := 2, cells := 0, slots := 0, locals := 65 } D cls5 4 0 0 [oX0 d sc db dq dt w1, aB K db nb b1, aB K dq 32768 q1, aI K dt 64 zt] 28 [(3, .int (iZ i)), (2, .int (iZ (w1 * 512))), (0, .ref d), (1, .int (iZ tg))] [] := by
      intro nn
      induction nn with
      | zero => intro i q1 g28_0 g28_1 hmu; exact absurd hmu (Nat.not_lt_zero _)
      | succ nn ih =>
        intro i q1 g28_0 g28_1 hmu
        refine z_iload_n F 0 dX0_waitWithZeros_28 rfl ?_
        refine z_sipush F dX0_waitWithZeros_29 (by decide) ?_
        refine z_icmp_ge F 50 dX0_waitWithZeros_32 (by decide) (by omega) (fun c1 => ?_) (fun c1 => ?_)
        · refine z_aload_n F 2 dX0_waitWithZeros_50 rfl ?_
          refine z_iload_n F 3 dX0_waitWithZeros_51 rfl ?_
          refine z_callV F lw_good (k_X0_addTarget _ D K d sc db dq dt w1 zt tg g17_0 h3 h5) t1_227 t1_3 t1_224 t1_226 (q := (RX0, TX0, 5)) ts_6 ⟨rfl, rfl⟩ ndX0_addTarget ⟨Nat.le_of_ble_eq_true rfl, Nat.le_of_ble_eq_true rfl⟩ 0 rfl rfl (rest := []) rfl (Nat.le_of_ble_eq_true rfl) dX0_waitWithZeros_52 ⟨(show 0 + 0 ≤ 0 by omega), (show 0 + 0 ≤ 0 by omega)⟩ (wr := [aB K db nb b1, aB K dq 32768 q1]) ([0, 3] : List Nat) ([1, 2] : List Nat) rfl rfl rfl rfl (by decide) (fun v wo hp => ?_)
          obtain ⟨r_2, zt2_3, rfl, rfl, f4, f5⟩ := hp
          refine z_re F (ws' := [oX0 d sc db dq dt (w1 + 1), aB K db nb b1, aB K dq 32768 q1, aI K dt 64 zt2_3]) (st' := [.int (iZ r_2)]) ([2, 0, 1, 3] : List Nat) rfl rfl rfl ?_
          exact z_iret F hr dX0_waitWithZeros_55 (by omega) ⟨r_2, (w1 + 1), b1, q1, zt2_3, rfl, rfl, (by omega), (by omega), g17_1, g28_1, f5⟩
        · refine z_aload_n F 2 dX0_waitWithZeros_35 rfl ?_
          refine z_get F 0 2 iX0 rfl rfl (by decide) t1_40 rfl dX0_waitWithZeros_36 ?_
          refine z_iload_n F 1 dX0_waitWithZeros_39 rfl ?_
          refine z_iload_n F 0 dX0_waitWithZeros_40 rfl ?_
          refine z_iadd F dX0_waitWithZeros_41 ?_
          refine z_iconst F dX0_waitWithZeros_42 ?_
          refine z_bast F (ws' := [oX0 d sc db dq dt w1, aB K db nb b1, aB K dq 32768 (zu q1 ((w1 * 512) + i).toNat ((0 : Int).bmod 256)), aI K dt 64 zt]) 2 rfl rfl dX0_waitWithZeros_43 (by omega) (by omega) rfl ?_
          have r6 : rng (-128) 127 (zu q1 ((w1 * 512) + i).toNat ((0 : Int).bmod 256)) := rng_zu g28_1 (bm_r _)
          refine z_iinc F (lv' := [(3, .int (iZ (i + 1))), (2, .int (iZ (w1 * 512))), (0, .ref d), (1, .int (iZ tg))]) 0 dX0_waitWithZeros_44 rfl (by decide) rfl ?_
          refine z_goto F 28 dX0_waitWithZeros_47 (by decide) ?_
          exact ih (i + 1) (zu q1 ((w1 * 512) + i).toNat ((0 : Int).bmod 256)) (by omega) r6 (by omega)
    exact lp28 ((512 - 0 : Int).toNat + 1) 0 zq (by omega) h2 (Nat.lt_succ_self _)
  refine z_icmp_lt F 17 dX0_waitWithZeros_6 (by decide) (by omega) (fun c7 => ?_) (fun c7 => ?_)
  · exact lp17 wc zb (by omega) h1
  · refine z_aload_n F 0 dX0_waitWithZeros_9 rfl ?_
    refine z_bipush F dX0_waitWithZeros_10 (by decide) ?_
    refine z_iconst F dX0_waitWithZeros_12 ?_
    refine z_callV F lw_good (k_X0_bring _ D K d sc db dq dt wc nb zb zq zt 64 0 h0 h1 h2 h3 h4 (by omega)) t1_219 t1_3 t1_216 t1_217 (q := (RX0, TX0, 5)) t1_218 ⟨rfl, rfl⟩ ndX0_bring ⟨Nat.le_of_ble_eq_true rfl, Nat.le_of_ble_eq_true rfl⟩ 0 rfl rfl (rest := []) rfl (Nat.le_of_ble_eq_true rfl) dX0_waitWithZeros_13 ⟨(show 0 + 0 ≤ 0 by omega), (show 0 + 0 ≤ 0 by omega)⟩ (wr := []) ([0, 1, 2, 3] : List Nat) ([] : List Nat) rfl rfl rfl rfl (by decide) (fun v wo hp => ?_)
    obtain ⟨r_8, zb2_9, rfl, rfl, f10, f11⟩ := hp
    refine z_re F (ws' := [oX0 d sc db dq dt 0, aB K db nb zb2_9, aB K dq 32768 zq, aI K dt 64 zt]) (st' := [.int (iZ r_8)]) ([0, 1, 2, 3] : List Nat) rfl rfl rfl ?_
    refine z_pop F dX0_waitWithZeros_16 rfl ?_
    exact lp17 0 zb2_9 (by omega) f11
set_option maxHeartbeats 4000000 in
set_option maxRecDepth 20000 in
theorem k_J9_floorMod_7cf53 (l : Launch) (D : va_G) (K : KI) (v : Int) (h0 : -2147483648 ≤ v ∧ v ≤ 2147483647) : Ct lw_T l yJ9_floorMod_7cf53 cJ9_floorMod_7cf53 3 (some .int) { frames := 0, cells := 0, slots := 0, locals := 0 } 0 0 D cls5 (TY K) [.int (iZ v), .int (iZ 2)] [] (fun v wo => ∃ (r : Int), v = some (.int (iZ r)) ∧ wo = [] ∧ (0 ≤ r ∧ r ≤ 1)) := by
  refine ct_of (own := RJ9) (lv := [(0, .int (iZ v)), (1, .int (iZ 2))]) (by decide +kernel) rfl (Nat.le_of_ble_eq_true rfl) rfl (fun C F hr hnm hzl => ?_)
  subst hzl
  refine z_iload_n F 0 dJ9_floorMod_7cf53_0 rfl ?_
  refine z_iload_n F 1 dJ9_floorMod_7cf53_1 rfl ?_
  refine z_irem F dJ9_floorMod_7cf53_2 (by omega) (by omega) ?_
  refine z_nm F (fun q1 eq1 => ?_)
  have hq1 := md_spec v 2 (by omega)
  rw [← eq1] at hq1
  refine z_istore_n F (lv' := [(2, .int (iZ q1)), (0, .int (iZ v)), (1, .int (iZ 2))]) dJ9_floorMod_7cf53_3 (by decide) rfl ?_
  refine z_iload_n F 1 dJ9_floorMod_7cf53_4 rfl ?_
  refine z_iload_n F 2 dJ9_floorMod_7cf53_5 rfl ?_
  refine z_ixor F dJ9_floorMod_7cf53_6 (fun b2 rb2 eb2 => ?_)
  have hsg := xor2_sign h0 rb2 eb2
  have htm := tmod_neg2 v
  refine z_if_ge F 18 dJ9_floorMod_7cf53_7 (by decide) (by omega) (fun c3 => ?_) (fun c3 => ?_)
  · refine z_iload_n F 0 dJ9_floorMod_7cf53_18 rfl ?_
    exact z_iret F hr dJ9_floorMod_7cf53_19 (by omega) ⟨q1, rfl, rfl, (by omega)⟩
  · refine z_iload_n F 0 dJ9_floorMod_7cf53_10 rfl ?_
    refine z_if_eq F 18 dJ9_floorMod_7cf53_11 (by decide) (by omega) (fun c4 => ?_) (fun c4 => ?_)
    · refine z_iload_n F 0 dJ9_floorMod_7cf53_18 rfl ?_
      exact z_iret F hr dJ9_floorMod_7cf53_19 (by omega) ⟨q1, rfl, rfl, (by omega)⟩
    · refine z_iload_n F 0 dJ9_floorMod_7cf53_14 rfl ?_
      refine z_iload_n F 2 dJ9_floorMod_7cf53_15 rfl ?_
      refine z_iadd F dJ9_floorMod_7cf53_16 ?_
      exact z_iret F hr dJ9_floorMod_7cf53_17 (by omega) ⟨(q1 + 2), rfl, rfl, (by omega)⟩
end
section
set_option maxHeartbeats 4000000 in
set_option maxRecDepth 20000 in
theorem k_X5_firstSector (l : Launch) (D : va_G) (K : KI) (x : Nat) (xd : Nat) (xt : Nat) (xu : Nat) (sa : Int) (ru : Int) (ar : Int) (sq : Int) (ge : Int) (ne : Int) (wa : Int) (fe : Int) (tk : Int) (cp : Int) (xc : Nat) (oa : Int) (h0 : oa = 0 ∨ oa = 1) : Ct lw_T l yX5_firstSector cX5_firstSector 2 (some .int) { frames := 0, cells := 0, slots := 0, locals := 0 } 0 0 D cls5 (TY K) [.ref x, .int (iZ oa)] [oX5 x xd xt xu sa ru ar sq ge ne wa fe tk cp xc] (fun v wo => ∃ (r : Int), v = some (.int (iZ r)) ∧ wo = [oX5 x xd xt xu sa ru ar sq ge ne wa fe tk cp xc] ∧ ((oa = 0 → r = 2) ∧ (oa = 1 → r = 2 + sa))) := by
  refine ct_of (own := RX5) (lv := [(0, .ref x), (1, .int (iZ oa))]) (by decide) rfl (Nat.le_of_ble_eq_true rfl) rfl (fun C F hr hnm hzl => ?_)
  subst hzl
  refine z_iconst F dX5_firstSector_0 ?_
  refine z_iload_n F 1 dX5_firstSector_1 rfl ?_
  refine z_aload_n F 0 dX5_firstSector_2 rfl ?_
  refine z_get F 0 3 iX5 rfl rfl (by decide) t1_112 rfl dX5_firstSector_3 ?_
  refine z_imul F dX5_firstSector_6 ?_
  refine z_iadd F dX5_firstSector_7 ?_
  exact z_iret F hr dX5_firstSector_8 (by omega) ⟨(2 + (oa * sa)), rfl, rfl, (⟨fun q => by rw [q]; omega, fun q => by rw [q]; omega⟩)⟩
set_option maxHeartbeats 4000000 in
set_option maxRecDepth 20000 in
theorem k_X5_clearArea (l : Launch) (D : va_G) (K : KI) (x : Nat) (xt : Nat) (xu : Nat) (sa : Int) (ru : Int) (ar : Int) (sq : Int) (ge : Int) (ne : Int) (wa : Int) (fe : Int) (tk : Int) (cp : Int) (xc : Nat) (d : Nat) (sc : Int) (db : Nat) (dq : Nat) (dt : Nat) (wc : Int) (nb : Nat) (zb : Nat → Int) (zq : Nat → Int) (zt : Nat → Int) (oa : Int) (h0 : 4 ≤ sc ∧ sc ≤ 40 ∧ (nb : Int) = 512 * sc) (h1 : rng (-128) 127 zb) (h2 : rng (-128) 127 zq) (h3 : rng 0 (sc-1) zt) (h4 : 0 ≤ wc ∧ wc ≤ 64) (h5 : oa = 0 ∨ oa = 1) (h6 : 1 ≤ sa ∧ 2 * sa ≤ sc - 2) : Ct lw_T l yX5_clearArea cX5_clearArea 4 none { frames := 3, cells := 0, slots := 0, locals := 88 } 0 0 D cls5 (TY K) [.ref x, .int (iZ oa)] [oX5 x d xt xu sa ru ar sq ge ne wa fe tk cp xc, oX0 d sc db dq dt wc, aB K db nb zb, aB K dq 32768 zq, aI K dt 64 zt] (fun v wo => ∃ (wc2 : Int), ∃ (zb2 : Nat → Int), ∃ (zq2 : Nat → Int), ∃ (zt2 : Nat → Int), v = none ∧ wo = [oX5 x d xt xu sa ru ar sq ge ne wa fe tk cp xc, oX0 d sc db dq dt wc2, aB K db nb zb2, aB K dq 32768 zq2, aI K dt 64 zt2] ∧ (0 ≤ wc2 ∧ wc2 ≤ 64) ∧ (rng (-128) 127 zb2) ∧ (rng (-128) 127 zq2) ∧ (rng 0 (sc-1) zt2)) := by
  refine ct_of (own := RX5) (lv := [(0, .ref x), (1, .int (iZ oa))]) (by decide) rfl (Nat.le_of_ble_eq_true rfl) rfl (fun C F hr hnm hzl => ?_)
  subst hzl
  refine z_aload_n F 0 dX5_clearArea_0 rfl ?_
  refine z_iload_n F 1 dX5_clearArea_1 rfl ?_
  refine z_callV F lw_good (k_X5_firstSector _ D K x d xt xu sa ru ar sq ge ne wa fe tk cp xc oa h5) t1_211 t1_1 t1_208 t1_210 (q := (RX5, TX5, 14)) ts_5 ⟨rfl, rfl⟩ ndX5_firstSector ⟨Nat.le_of_ble_eq_true rfl, Nat.le_of_ble_eq_true rfl⟩ 0 rfl rfl (rest := []) rfl (Nat.le_of_ble_eq_true rfl) dX5_clearArea_2 ⟨(show 0 + 0 ≤ 0 by omega), (show 0 + 0 ≤ 0 by omega)⟩ (wr := [oX0 d sc db dq dt wc, aB K db nb zb, aB K dq 32768 zq, aI K dt 64 zt]) ([0] : List Nat) ([1, 2, 3, 4] : List Nat) rfl rfl rfl rfl (by decide) (fun v wo hp => ?_)
  obtain ⟨r_1, rfl, rfl, f2⟩ := hp
  refine z_re F (ws' := [oX5 x d xt xu sa ru ar sq ge ne wa fe tk cp xc, oX0 d sc db dq dt wc, aB K db nb zb, aB K dq 32768 zq, aI K dt 64 zt]) (st' := [.int (iZ r_1)]) ([4, 0, 1, 2, 3] : List Nat) rfl rfl rfl ?_
  refine z_istore_n F (lv' := [(2, .int (iZ r_1)), (0, .ref x), (1, .int (iZ oa))]) dX5_clearArea_5 (by decide) rfl ?_
  refine z_iconst F dX5_clearArea_6 ?_
  refine z_istore_n F (lv' := [(3, .int (iZ 0)), (2, .int (iZ r_1)), (0, .ref x), (1, .int (iZ oa))]) dX5_clearArea_7 (by decide) rfl ?_
  have lp8 : ∀ (nn : Nat) (i : Int) (wcv : Int) (zbv : Nat → Int) (zqv : Nat → Int) (ztv : Nat → Int), (0 ≤ i ∧ i ≤ sa) → (0 ≤ wcv ∧ wcv ≤ 64) → (rng (-128) 127 zbv) → (rng (-128) 127 zqv) → (rng 0 (sc-1) ztv) → ((sa - i : Int).toNat < nn) → Go C { frames := 3, cells := 0, slots := 0, locals := 88 } D cls5 4 0 0 [oX5 x d xt xu sa ru ar sq ge ne wa fe tk cp xc, oX0 d sc db dq dt wcv, aB K db nb zbv, aB K dq 32768 zqv, aI K dt 64 ztv] 8 [(3, .int (iZ i)), (2, .int (iZ r_1)), (0, .ref x), (1, .int (iZ oa))] [] := by
    intro nn
    induction nn with
    | zero => intro i wcv zbv zqv ztv g8_0 g8_1 g8_2 g8_3 g8_4 hmu; exact absurd hmu (Nat.not_lt_zero _)
    | succ nn ih =>
      intro i wcv zbv zqv ztv g8_0 g8_1 g8_2 g8_3 g8_4 hmu
      refine z_iload_n F 0 dX5_clearArea_8 rfl ?_
      refine z_aload_n F 2 dX5_clearArea_9 rfl ?_
      refine z_get F 0 3 iX5 rfl rfl (by decide) t1_112 rfl dX5_clearArea_10 ?_
      refine z_icmp_ge F 33 dX5_clearArea_13 (by decide) (by omega) (fun c3 => ?_) (fun c3 => ?_)
      · exact z_vret F hr dX5_clearArea_33 (by omega) ⟨wcv, zbv, zqv, ztv, rfl, rfl, g8_1, g8_2, g8_3, g8_4⟩
      · refine z_aload_n F 2 dX5_clearArea_16 rfl ?_
        refine z_get F 0 0 iX5 rfl rfl (by decide) t1_109 rfl dX5_clearArea_17 ?_
        refine z_iload_n F 1 dX5_clearArea_20 rfl ?_
        refine z_iload_n F 0 dX5_clearArea_21 rfl ?_
        refine z_iadd F dX5_clearArea_22 ?_
        refine z_callV F lw_good (k_X0_waitWithZeros _ D K d sc db dq dt wcv nb zbv zqv ztv (r_1 + i) h0 g8_2 g8_3 g8_4 g8_1 (by omega)) t1_215 t1_3 t1_212 t1_213 (q := (RX0, TX0, 5)) t1_214 ⟨rfl, rfl⟩ ndX0_waitWithZeros ⟨Nat.le_of_ble_eq_true rfl, Nat.le_of_ble_eq_true rfl⟩ 0 rfl rfl (rest := []) rfl (Nat.le_of_ble_eq_true rfl) dX5_clearArea_23 ⟨(show 0 + 0 ≤ 0 by omega), (show 0 + 0 ≤ 0 by omega)⟩ (wr := [oX5 x d xt xu sa ru ar sq ge ne wa fe tk cp xc]) ([1, 2, 3, 4] : List Nat) ([0] : List Nat) rfl rfl rfl rfl (by decide) (fun v wo hp => ?_)
        obtain ⟨r_4, wc2_5, zb2_6, zq2_7, zt2_8, rfl, rfl, f9, f10, f11, f12, f13⟩ := hp
        refine z_re F (ws' := [oX5 x d xt xu sa ru ar sq ge ne wa fe tk cp xc, oX0 d sc db dq dt wc2_5, aB K db nb zb2_6, aB K dq 32768 zq2_7, aI K dt 64 zt2_8]) (st' := [.int (iZ r_4)]) ([0, 1, 2, 3, 4] : List Nat) rfl rfl rfl ?_
        refine z_pop F dX5_clearArea_26 rfl ?_
        refine z_iinc F (lv' := [(3, .int (iZ (i + 1))), (2, .int (iZ r_1)), (0, .ref x), (1, .int (iZ oa))]) 0 dX5_clearArea_27 rfl (by decide) rfl ?_
        refine z_goto F 8 dX5_clearArea_30 (by decide) ?_
        exact ih (i + 1) wc2_5 zb2_6 zq2_7 zt2_8 (by omega) (by omega) f11 f12 f13 (by omega)
  exact lp8 ((sa - 0 : Int).toNat + 1) 0 wc zb zq zt (by omega) h4 h1 h2 h3 (Nat.lt_succ_self _)
set_option maxHeartbeats 4000000 in
set_option maxRecDepth 20000 in
theorem k_X5_changeHeads (l : Launch) (D : va_G) (K : KI) (x : Nat) (xt : Nat) (xu : Nat) (sa : Int) (ru : Int) (ar : Int) (sq : Int) (ge : Int) (ne : Int) (wa : Int) (fe : Int) (tk : Int) (cp : Int) (xc : Nat) (d : Nat) (sc : Int) (db : Nat) (dq : Nat) (dt : Nat) (wc : Int) (nb : Nat) (zb : Nat → Int) (zq : Nat → Int) (zt : Nat → Int) (h0 : 4 ≤ sc ∧ sc ≤ 40 ∧ (nb : Int) = 512 * sc) (h1 : rng (-128) 127 zb) (h2 : rng (-128) 127 zq) (h3 : rng 0 (sc-1) zt) (h4 : 0 ≤ wc ∧ wc ≤ 64) (h5 : 0 ≤ ar ∧ ar ≤ 1) : Ct lw_T l yX5_changeHeads cX5_changeHeads 3 none { frames := 3, cells := 0, slots := 0, locals := 88 } 0 0 D cls5 (TY K) [.ref x] [oX5 x d xt xu sa ru ar sq ge ne wa fe tk cp xc, oX0 d sc db dq dt wc, aB K db nb zb, aB K dq 32768 zq, aI K dt 64 zt] (fun v wo => ∃ (sq2 : Int), ∃ (wc2 : Int), ∃ (zb2 : Nat → Int), ∃ (zq2 : Nat → Int), ∃ (zt2 : Nat → Int), v = none ∧ wo = [oX5 x d xt xu sa ru ar sq2 ge ne wa fe tk cp xc, oX0 d sc db dq dt wc2, aB K db nb zb2, aB K dq 32768 zq2, aI K dt 64 zt2] ∧ (0 ≤ wc2 ∧ wc2 ≤ 64) ∧ (rng (-128) 127 zb2) ∧ (rng (-128) 127 zq2) ∧ (rng 0 (sc-1) zt2)) := by
  refine ct_of (own := RX5) (lv := [(0, .ref x)]) (by decide) rfl (Nat.le_of_ble_eq_true rfl) rfl (fun C F hr hnm hzl => ?_)
  subst hzl
  refine z_iconst F dX5_changeHeads_0 ?_
  refine z_istore_n F (lv' := [(1, .int (iZ 0)), (0, .ref x)]) dX5_changeHeads_1 (by decide) rfl ?_
  have lp2 : ∀ (nn : Nat) (i : Int) (sv : Int) (wcv : Int) (zbv : Nat → Int) (zqv : Nat → Int) (ztv : Nat → Int), (0 ≤ i ∧ i ≤ 2) → (0 ≤ wcv ∧ wcv ≤ 64) → (rng (-128) 127 zbv) → (rng (-128) 127 zqv) → (rng 0 (sc-1) ztv) → ((2 - i : Int).toNat < nn) → Go C { frames := 3, cells := 0, slots := 0, locals := 88 } D cls5 3 0 0 [oX5 x d xt xu sa ru ar sv ge ne wa fe tk cp xc, oX0 d sc db dq dt wcv, aB K db nb zbv, aB K dq 32768 zqv, aI K dt 64 ztv] 2 [(1, .int (iZ i)), (0, .ref x)] [] := by
    intro nn
    induction nn with
    | zero => intro i sv wcv zbv zqv ztv g2_0 g2_1 g2_2 g2_3 g2_4 hmu; exact absurd hmu (Nat.not_lt_zero _)
    | succ nn ih =>
      intro i sv wcv zbv zqv ztv g2_0 g2_1 g2_2 g2_3 g2_4 hmu
      refine z_iload_n F 0 dX5_changeHeads_2 rfl ?_
      refine z_iconst F dX5_changeHeads_3 ?_
      refine z_icmp_ge F 62 dX5_changeHeads_4 (by decide) (by omega) (fun c1 => ?_) (fun c1 => ?_)
      · exact z_vret F hr dX5_changeHeads_62 (by omega) ⟨sv, wcv, zbv, zqv, ztv, rfl, rfl, g2_1, g2_2, g2_3, g2_4⟩
      · refine z_aload_n F 1 dX5_changeHeads_7 rfl ?_
        refine z_dup F dX5_changeHeads_8 rfl ?_
        refine z_get F 0 6 iX5 rfl rfl (by decide) t1_115 rfl dX5_changeHeads_9 ?_
        refine z_iconst F dX5_changeHeads_12 ?_
        refine z_iadd F dX5_changeHeads_13 ?_
        refine z_put F (ws' := [oX5 x d xt xu sa ru ar (sv + 1) ge ne wa fe tk cp xc, oX0 d sc db dq dt wcv, aB K db nb zbv, aB K dq 32768 zqv, aI K dt 64 ztv]) 0 6 iX5 tyX5 tyX5_ok nmX5 rfl rfl (by decide) t1_115 rfl rfl rfl rfl (Nat.le_of_ble_eq_true rfl) dX5_changeHeads_14 rfl ?_
        refine z_aload_n F 1 dX5_changeHeads_17 rfl ?_
        refine z_get F 0 0 iX5 rfl rfl (by decide) t1_109 rfl dX5_changeHeads_18 ?_
        refine z_aload_n F 1 dX5_changeHeads_21 rfl ?_
        refine z_get F 0 6 iX5 rfl rfl (by decide) t1_115 rfl dX5_changeHeads_22 ?_
        refine z_norm F (fun y2 ry2 ey2 => ?_)
        refine z_iconst F dX5_changeHeads_25 ?_
        refine z_callS F lw_good (k_J9_floorMod_7cf53 _ D K y2 (by omega)) t2_30 t1_2 t2_28 t2_29 ⟨rfl, rfl⟩ ndJ9_floorMod_7cf53 ⟨Nat.le_of_ble_eq_true rfl, Nat.le_of_ble_eq_true rfl⟩ (rest := [.ref d]) rfl (Nat.le_of_ble_eq_true rfl) dX5_changeHeads_26 ⟨(show 0 + 0 ≤ 0 by omega), (show 0 + 0 ≤ 0 by omega)⟩ (wr := [oX5 x d xt xu sa ru ar (sv + 1) ge ne wa fe tk cp xc, oX0 d sc db dq dt wcv, aB K db nb zbv, aB K dq 32768 zqv, aI K dt 64 ztv]) ([] : List Nat) ([0, 1, 2, 3, 4] : List Nat) rfl rfl rfl rfl (by decide) (fun v wo hp => ?_)
        obtain ⟨r_3, rfl, rfl, f4⟩ := hp
        refine z_re F (ws' := [oX5 x d xt xu sa ru ar (sv + 1) ge ne wa fe tk cp xc, oX0 d sc db dq dt wcv, aB K db nb zbv, aB K dq 32768 zqv, aI K dt 64 ztv]) (st' := [.int (iZ r_3), .ref d]) ([0, 1, 2, 3, 4] : List Nat) rfl rfl rfl ?_
        refine z_callV F lw_good (k_X0_waitWithZeros _ D K d sc db dq dt wcv nb zbv zqv ztv r_3 h0 g2_2 g2_3 g2_4 g2_1 (by omega)) t1_215 t1_3 t1_212 t1_213 (q := (RX0, TX0, 5)) t1_214 ⟨rfl, rfl⟩ ndX0_waitWithZeros ⟨Nat.le_of_ble_eq_true rfl, Nat.le_of_ble_eq_true rfl⟩ 0 rfl rfl (rest := []) rfl (Nat.le_of_ble_eq_true rfl) dX5_changeHeads_29 ⟨(show 0 + 0 ≤ 0 by omega), (show 0 + 0 ≤ 0 by omega)⟩ (wr := [oX5 x d xt xu sa ru ar (sv + 1) ge ne wa fe tk cp xc]) ([1, 2, 3, 4] : List Nat) ([0] : List Nat) rfl rfl rfl rfl (by decide) (fun v wo hp => ?_)
        obtain ⟨r_5, wc2_6, zb2_7, zq2_8, zt2_9, rfl, rfl, f10, f11, f12, f13, f14⟩ := hp
        refine z_re F (ws' := [oX5 x d xt xu sa ru ar (sv + 1) ge ne wa fe tk cp xc, oX0 d sc db dq dt wc2_6, aB K db nb zb2_7, aB K dq 32768 zq2_8, aI K dt 64 zt2_9]) (st' := [.int (iZ r_5)]) ([0, 1, 2, 3, 4] : List Nat) rfl rfl rfl ?_
        refine z_istore_n F (lv' := [(2, .int (iZ r_5)), (1, .int (iZ i)), (0, .ref x)]) dX5_changeHeads_32 (by decide) rfl ?_
        refine z_aload_n F 2 dX5_changeHeads_33 rfl ?_
        refine z_get F 0 0 iX5 rfl rfl (by decide) t1_109 rfl dX5_changeHeads_34 ?_
        refine z_get F 1 2 iX0 rfl rfl (by decide) t1_41 rfl dX5_changeHeads_37 ?_
        refine z_iload_n F 0 dX5_changeHeads_40 rfl ?_
        refine z_aload_n F 2 dX5_changeHeads_41 rfl ?_
        refine z_get F 0 7 iX5 rfl rfl (by decide) t1_116 rfl dX5_changeHeads_42 ?_
        refine z_aload_n F 2 dX5_changeHeads_45 rfl ?_
        refine z_get F 0 6 iX5 rfl rfl (by decide) t1_115 rfl dX5_changeHeads_46 ?_
        refine z_aload_n F 2 dX5_changeHeads_49 rfl ?_
        refine z_get F 0 5 iX5 rfl rfl (by decide) t1_114 rfl dX5_changeHeads_50 ?_
        refine z_callS F lw_good (k_X1_write _ D K dq 32768 zq2_8 r_5 ge (sv + 1) ar (by omega) f13) t2_33 t1_7 t2_31 t2_32 ⟨rfl, rfl⟩ ndX1_write ⟨Nat.le_of_ble_eq_true rfl, Nat.le_of_ble_eq_true rfl⟩ (rest := []) rfl (Nat.le_of_ble_eq_true rfl) dX5_changeHeads_53 ⟨(show 0 + 0 ≤ 0 by omega), (show 0 + 0 ≤ 0 by omega)⟩ (wr := [oX5 x d xt xu sa ru ar (sv + 1) ge ne wa fe tk cp xc, oX0 d sc db dq dt wc2_6, aB K db nb zb2_7, aI K dt 64 zt2_9]) ([3] : List Nat) ([0, 1, 2, 4] : List Nat) rfl rfl rfl rfl (by decide) (fun v wo hp => ?_)
        obtain ⟨z2_15, rfl, rfl, f16⟩ := hp
        refine z_re F (ws' := [oX5 x d xt xu sa ru ar (sv + 1) ge ne wa fe tk cp xc, oX0 d sc db dq dt wc2_6, aB K db nb zb2_7, aB K dq 32768 z2_15, aI K dt 64 zt2_9]) (st' := []) ([0, 1, 2, 4, 3] : List Nat) rfl rfl rfl ?_
        refine z_iinc F (lv' := [(1, .int (iZ (i + 1))), (2, .int (iZ r_5)), (0, .ref x)]) 1 dX5_changeHeads_56 rfl (by decide) rfl ?_
        refine z_goto F 2 dX5_changeHeads_59 (by decide) ?_
        refine z_lv F (lv' := [(1, .int (iZ (i + 1))), (0, .ref x)]) [0, 2] rfl ?_
        exact ih (i + 1) (sv + 1) wc2_6 zb2_7 z2_15 zt2_9 (by omega) (by omega) f12 f16 f14 (by omega)
  exact lp2 ((2 - 0 : Int).toNat + 1) 0 sq wc zb zq zt (by omega) h4 h1 h2 h3 (Nat.lt_succ_self _)
end
section
set_option maxHeartbeats 4000000 in
set_option maxRecDepth 20000 in
theorem k_X3_wrongCount (l : Launch) (D : va_G) (K : KI) (y : Nat) (yk : Nat) (yn : Nat) (yc : Nat) (ya : Nat) (yd : Nat) (yl : Nat) (lp : Int) (re : Int) (wp : Int) (lw : Int)  : Ct lw_T l yX3_wrongCount cX3_wrongCount 1 (some .int) { frames := 0, cells := 0, slots := 0, locals := 0 } 0 0 D cls5 (TY K) [.ref y] [oX3 y yk yn yc ya yd yl lp re wp lw] (fun v wo => v = some (.int (iZ wp)) ∧ wo = [oX3 y yk yn yc ya yd yl lp re wp lw]) := by
  refine ct_of (own := RX3) (lv := [(0, .ref y)]) (by decide) rfl (Nat.le_of_ble_eq_true rfl) rfl (fun C F hr hnm hzl => ?_)
  subst hzl
  refine z_aload_n F 0 dX3_wrongCount_0 rfl ?_
  refine z_get F 0 8 iX3 rfl rfl (by decide) t1_71 rfl dX3_wrongCount_1 ?_
  exact z_iret F hr dX3_wrongCount_4 (by omega) ⟨rfl, rfl⟩
set_option maxHeartbeats 4000000 in
set_option maxRecDepth 20000 in
theorem k_X3_end (l : Launch) (D : va_G) (K : KI) (y : Nat) (yk : Nat) (yn : Nat) (yc : Nat) (ya : Nat) (yd : Nat) (yl : Nat) (lp : Int) (re : Int) (wp : Int) (lw : Int)  : Ct lw_T l yX3_end cX3_end 1 (some .int) { frames := 0, cells := 0, slots := 0, locals := 0 } 0 0 D cls5 (TY K) [.ref y] [oX3 y yk yn yc ya yd yl lp re wp lw] (fun v wo => v = some (.int (iZ re)) ∧ wo = [oX3 y yk yn yc ya yd yl lp re wp lw]) := by
  refine ct_of (own := RX3) (lv := [(0, .ref y)]) (by decide) rfl (Nat.le_of_ble_eq_true rfl) rfl (fun C F hr hnm hzl => ?_)
  subst hzl
  refine z_aload_n F 0 dX3_end_0 rfl ?_
  refine z_get F 0 7 iX3 rfl rfl (by decide) t1_70 rfl dX3_end_1 ?_
  exact z_iret F hr dX3_end_4 (by omega) ⟨rfl, rfl⟩
set_option maxHeartbeats 4000000 in
set_option maxRecDepth 20000 in
theorem k_X3_places (l : Launch) (D : va_G) (K : KI) (y : Nat) (yk : Nat) (yn : Nat) (yc : Nat) (ya : Nat) (yd : Nat) (yl : Nat) (lp : Int) (re : Int) (wp : Int) (lw : Int) (np : Nat) (zk : Nat → Int) (h0 : np ≤ 304) : Ct lw_T l yX3_places cX3_places 1 (some .int) { frames := 0, cells := 0, slots := 0, locals := 0 } 0 0 D cls5 (TY K) [.ref y] [oX3 y yk yn yc ya yd yl lp re wp lw, aI K yk np zk] (fun v wo => v = some (.int (iZ (np : Int))) ∧ wo = [oX3 y yk yn yc ya yd yl lp re wp lw, aI K yk np zk]) := by
  refine ct_of (own := RX3) (lv := [(0, .ref y)]) (by decide) rfl (Nat.le_of_ble_eq_true rfl) rfl (fun C F hr hnm hzl => ?_)
  subst hzl
  refine z_aload_n F 0 dX3_places_0 rfl ?_
  refine z_get F 0 0 iX3 rfl rfl (by decide) t1_63 rfl dX3_places_1 ?_
  refine z_alen F 1 0 rfl rfl dX3_places_4 ?_
  exact z_iret F hr dX3_places_5 (by omega) ⟨rfl, rfl⟩
set_option maxHeartbeats 4000000 in
set_option maxRecDepth 20000 in
theorem k_X3_indexPlace (l : Launch) (D : va_G) (K : KI) (y : Nat) (yk : Nat) (yn : Nat) (yc : Nat) (ya : Nat) (yd : Nat) (yl : Nat) (lp : Int) (re : Int) (wp : Int) (lw : Int) (np : Nat) (zk : Nat → Int) (zn : Nat → Int) (zl : Nat → Int) (pl : Int) (h0 : 1 ≤ np ∧ np ≤ 304) (h1 : 0 ≤ re ∧ re ≤ np) (h2 : rng (-1) (np-1) zl) (h3 : nmOk zk zn) (h4 : 0 ≤ pl ∧ pl ≤ np - 1) (h5 : -1 ≤ lp ∧ lp ≤ np - 1 ∧ 0 ≤ wp ∧ wp ≤ pl ∧ -1 ≤ lw ∧ lw ≤ np - 1) (h6 : rng 0 3 zk) : Ct lw_T l yX3_indexPlace cX3_indexPlace 2 none { frames := 0, cells := 0, slots := 0, locals := 0 } 0 0 D cls5 (TY K) [.ref y, .int (iZ pl)] [oX3 y yk yn yc ya yd yl lp re wp lw, aI K yk np zk, aI K yn np zn, aI K yl 64 zl] (fun v wo => ∃ (lp2 : Int), ∃ (wp2 : Int), ∃ (lw2 : Int), ∃ (zl2 : Nat → Int), v = none ∧ wo = [oX3 y yk yn yc ya yd yl lp2 re wp2 lw2, aI K yk np zk, aI K yn np zn, aI K yl 64 zl2] ∧ (-1 ≤ lp2 ∧ lp2 ≤ np - 1 ∧ 0 ≤ wp2 ∧ wp2 ≤ pl + 1 ∧ -1 ≤ lw2 ∧ lw2 ≤ np - 1) ∧ (rng (-1) (np-1) zl2)) := by
  refine ct_of (own := RX3) (lv := [(0, .ref y), (1, .int (iZ pl))]) (by decide) rfl (Nat.le_of_ble_eq_true rfl) rfl (fun C F hr hnm hzl => ?_)
  subst hzl
  refine z_aload_n F 0 dX3_indexPlace_0 rfl ?_
  refine z_get F 0 0 iX3 rfl rfl (by decide) t1_63 rfl dX3_indexPlace_1 ?_
  refine z_iload_n F 1 dX3_indexPlace_4 rfl ?_
  refine z_iald F 1 rfl rfl dX3_indexPlace_5 (by omega) (by omega) ?_
  have r1 : 0 ≤ zk pl.toNat ∧ zk pl.toNat ≤ 3 := h6 _
  refine z_if_ne F 27 dX3_indexPlace_6 (by decide) (by omega) (fun c2 => ?_) (fun c2 => ?_)
  · refine z_aload_n F 0 dX3_indexPlace_27 rfl ?_
    refine z_get F 0 0 iX3 rfl rfl (by decide) t1_63 rfl dX3_indexPlace_28 ?_
    refine z_iload_n F 1 dX3_indexPlace_31 rfl ?_
    refine z_iald F 1 rfl rfl dX3_indexPlace_32 (by omega) (by omega) ?_
    have r3 : 0 ≤ zk pl.toNat ∧ zk pl.toNat ≤ 3 := h6 _
    refine z_iconst F dX3_indexPlace_33 ?_
    refine z_icmp_ne F 52 dX3_indexPlace_34 (by decide) (by omega) (fun c4 => ?_) (fun c4 => ?_)
    · refine z_aload_n F 0 dX3_indexPlace_52 rfl ?_
      refine z_iload_n F 1 dX3_indexPlace_53 rfl ?_
      refine z_put F (ws' := [oX3 y yk yn yc ya yd yl pl re wp lw, aI K yk np zk, aI K yn np zn, aI K yl 64 zl]) 0 6 iX3 tyX3 tyX3_ok nmX3 rfl rfl (by decide) t1_69 rfl rfl rfl rfl (Nat.le_of_ble_eq_true rfl) dX3_indexPlace_54 rfl ?_
      exact z_vret F hr dX3_indexPlace_57 (by omega) ⟨pl, wp, lw, zl, rfl, rfl, (by omega), h2⟩
    · have hnm1 := h3 pl.toNat (by omega)
      refine z_aload_n F 0 dX3_indexPlace_37 rfl ?_
      refine z_get F 0 5 iX3 rfl rfl (by decide) t1_68 rfl dX3_indexPlace_38 ?_
      refine z_aload_n F 0 dX3_indexPlace_41 rfl ?_
      refine z_get F 0 1 iX3 rfl rfl (by decide) t1_64 rfl dX3_indexPlace_42 ?_
      refine z_iload_n F 1 dX3_indexPlace_45 rfl ?_
      refine z_iald F 2 rfl rfl dX3_indexPlace_46 (by omega) (by omega) ?_
      refine z_iload_n F 1 dX3_indexPlace_47 rfl ?_
      refine z_iast F (ws' := [oX3 y yk yn yc ya yd yl lp re wp lw, aI K yk np zk, aI K yn np zn, aI K yl 64 (zu zl (zn pl.toNat).toNat pl)]) 3 rfl rfl dX3_indexPlace_48 (by omega) (by omega) rfl ?_
      have r5 : rng (-1) (np-1) (zu zl (zn pl.toNat).toNat pl) := rng_zu h2 (by omega)
      refine z_goto F 57 dX3_indexPlace_49 (by decide) ?_
      exact z_vret F hr dX3_indexPlace_57 (by omega) ⟨lp, wp, lw, (zu zl (zn pl.toNat).toNat pl), rfl, rfl, (by omega), r5⟩
  · refine z_aload_n F 0 dX3_indexPlace_9 rfl ?_
    refine z_dup F dX3_indexPlace_10 rfl ?_
    refine z_get F 0 8 iX3 rfl rfl (by decide) t1_71 rfl dX3_indexPlace_11 ?_
    refine z_iconst F dX3_indexPlace_14 ?_
    refine z_iadd F dX3_indexPlace_15 ?_
    refine z_put F (ws' := [oX3 y yk yn yc ya yd yl lp re (wp + 1) lw, aI K yk np zk, aI K yn np zn, aI K yl 64 zl]) 0 8 iX3 tyX3 tyX3_ok nmX3 rfl rfl (by decide) t1_71 rfl rfl rfl rfl (Nat.le_of_ble_eq_true rfl) dX3_indexPlace_16 rfl ?_
    refine z_aload_n F 0 dX3_indexPlace_19 rfl ?_
    refine z_iload_n F 1 dX3_indexPlace_20 rfl ?_
    refine z_put F (ws' := [oX3 y yk yn yc ya yd yl lp re (wp + 1) pl, aI K yk np zk, aI K yn np zn, aI K yl 64 zl]) 0 9 iX3 tyX3 tyX3_ok nmX3 rfl rfl (by decide) t1_72 rfl rfl rfl rfl (Nat.le_of_ble_eq_true rfl) dX3_indexPlace_21 rfl ?_
    refine z_goto F 57 dX3_indexPlace_24 (by decide) ?_
    exact z_vret F hr dX3_indexPlace_57 (by omega) ⟨lp, (wp + 1), pl, zl, rfl, rfl, (by omega), h2⟩
set_option maxHeartbeats 4000000 in
set_option maxRecDepth 20000 in
theorem k_X3_index (l : Launch) (D : va_G) (K : KI) (y : Nat) (yk : Nat) (yn : Nat) (yc : Nat) (ya : Nat) (yd : Nat) (yl : Nat) (lp : Int) (re : Int) (wp : Int) (lw : Int) (np : Nat) (zk : Nat → Int) (zn : Nat → Int) (zl : Nat → Int) (h0 : 1 ≤ np ∧ np ≤ 304) (h1 : 0 ≤ re ∧ re ≤ np) (h2 : rng (-1) (np-1) zl) (h3 : nmOk zk zn) (h4 : rng 0 3 zk) : Ct lw_T l yX3_index cX3_index 2 none { frames := 1, cells := 0, slots := 0, locals := 21 } 0 0 D cls5 (TY K) [.ref y] [oX3 y yk yn yc ya yd yl lp re wp lw, aI K yk np zk, aI K yn np zn, aI K yl 64 zl] (fun v wo => ∃ (lp2 : Int), ∃ (wp2 : Int), ∃ (lw2 : Int), ∃ (zl2 : Nat → Int), v = none ∧ wo = [oX3 y yk yn yc ya yd yl lp2 re wp2 lw2, aI K yk np zk, aI K yn np zn, aI K yl 64 zl2] ∧ (-1 ≤ lp2 ∧ lp2 ≤ np - 1 ∧ 0 ≤ wp2 ∧ wp2 ≤ re ∧ -1 ≤ lw2 ∧ lw2 ≤ np - 1) ∧ (rng (-1) (np-1) zl2)) := by
  refine ct_of (own := RX3) (lv := [(0, .ref y)]) (by decide) rfl (Nat.le_of_ble_eq_true rfl) rfl (fun C F hr hnm hzl => ?_)
  subst hzl
  refine z_iconst F dX3_index_0 ?_
  refine z_istore_n F (lv' := [(1, .int (iZ 0)), (0, .ref y)]) dX3_index_1 (by decide) rfl ?_
  have lp2 : ∀ (nn : Nat) (i : Int) (w : Nat → Int), (0 ≤ i ∧ i ≤ 64) → (rng (-1) (np-1) w) → ((64 - i : Int).toNat < nn) → Go C { frames := 1, cells := 0, slots := 0, locals := 21 } D cls5 2 0 0 [oX3 y yk yn yc ya yd yl lp re wp lw, aI K yk np zk, aI K yn np zn, aI K yl 64 w] 2 [(1, .int (iZ i)), (0, .ref y)] [] := by
    intro nn
    induction nn with
    | zero => intro i w g2_0 g2_1 hmu; exact absurd hmu (Nat.not_lt_zero _)
    | succ nn ih =>
      intro i w g2_0 g2_1 hmu
      refine z_iload_n F 0 dX3_index_2 rfl ?_
      refine z_bipush F dX3_index_3 (by decide) ?_
      refine z_icmp_ge F 21 dX3_index_5 (by decide) (by omega) (fun c1 => ?_) (fun c1 => ?_)
      · refine z_aload_n F 1 dX3_index_21 rfl ?_
        refine z_iconst F dX3_index_22 ?_
        refine z_put F (ws' := [oX3 y yk yn yc ya yd yl (-1) re wp lw, aI K yk np zk, aI K yn np zn, aI K yl 64 w]) 0 6 iX3 tyX3 tyX3_ok nmX3 rfl rfl (by decide) t1_69 rfl rfl rfl rfl (Nat.le_of_ble_eq_true rfl) dX3_index_23 rfl ?_
        refine z_aload_n F 1 dX3_index_26 rfl ?_
        refine z_iconst F dX3_index_27 ?_
        refine z_put F (ws' := [oX3 y yk yn yc ya yd yl (-1) re 0 lw, aI K yk np zk, aI K yn np zn, aI K yl 64 w]) 0 8 iX3 tyX3 tyX3_ok nmX3 rfl rfl (by decide) t1_71 rfl rfl rfl rfl (Nat.le_of_ble_eq_true rfl) dX3_index_28 rfl ?_
        refine z_aload_n F 1 dX3_index_31 rfl ?_
        refine z_iconst F dX3_index_32 ?_
        refine z_put F (ws' := [oX3 y yk yn yc ya yd yl (-1) re 0 (-1), aI K yk np zk, aI K yn np zn, aI K yl 64 w]) 0 9 iX3 tyX3 tyX3_ok nmX3 rfl rfl (by decide) t1_72 rfl rfl rfl rfl (Nat.le_of_ble_eq_true rfl) dX3_index_33 rfl ?_
        refine z_iconst F dX3_index_36 ?_
        refine z_istore_n F (lv' := [(1, .int (iZ 0)), (0, .ref y)]) dX3_index_37 (by decide) rfl ?_
        have lp38 : ∀ (nn : Nat) (i : Int) (a6 : Int) (a8 : Int) (a9 : Int) (w : Nat → Int), (0 ≤ i ∧ i ≤ re) → (-1 ≤ a6 ∧ a6 ≤ np - 1 ∧ 0 ≤ a8 ∧ a8 ≤ i ∧ -1 ≤ a9 ∧ a9 ≤ np - 1) → (rng (-1) (np-1) w) → ((re - i : Int).toNat < nn) → Go C { frames := 1, cells := 0, slots := 0, locals := 21 } D cls5 2 0 0 [oX3 y yk yn yc ya yd yl a6 re a8 a9, aI K yk np zk, aI K yn np zn, aI K yl 64 w] 38 [(1, .int (iZ i)), (0, .ref y)] [] := by
          intro nn
          induction nn with
          | zero => intro i a6 a8 a9 w g38_0 g38_1 g38_2 hmu; exact absurd hmu (Nat.not_lt_zero _)
          | succ nn ih =>
            intro i a6 a8 a9 w g38_0 g38_1 g38_2 hmu
            refine z_iload_n F 0 dX3_index_38 rfl ?_
            refine z_aload_n F 1 dX3_index_39 rfl ?_
            refine z_get F 0 7 iX3 rfl rfl (by decide) t1_70 rfl dX3_index_40 ?_
            refine z_icmp_ge F 57 dX3_index_43 (by decide) (by omega) (fun c2 => ?_) (fun c2 => ?_)
            · exact z_vret F hr dX3_index_57 (by omega) ⟨a6, a8, a9, w, rfl, rfl, (by omega), g38_2⟩
            · refine z_aload_n F 1 dX3_index_46 rfl ?_
              refine z_iload_n F 0 dX3_index_47 rfl ?_
              refine z_callV F lw_good (k_X3_indexPlace _ D K y yk yn yc ya yd yl a6 re a8 a9 np zk zn w i h0 h1 g38_2 h3 (by omega) g38_1 h4) t1_203 t1_4 t1_200 t1_202 (q := (RX3, TX3, 10)) ts_3 ⟨rfl, rfl⟩ ndX3_indexPlace ⟨Nat.le_of_ble_eq_true rfl, Nat.le_of_ble_eq_true rfl⟩ 0 rfl rfl (rest := []) rfl (Nat.le_of_ble_eq_true rfl) dX3_index_48 ⟨(show 0 + 0 ≤ 0 by omega), (show 0 + 0 ≤ 0 by omega)⟩ (wr := []) ([0, 1, 2, 3] : List Nat) ([] : List Nat) rfl rfl rfl rfl (by decide) (fun v wo hp => ?_)
              obtain ⟨lp2_3, wp2_4, lw2_5, zl2_6, rfl, rfl, f7, f8⟩ := hp
              refine z_re F (ws' := [oX3 y yk yn yc ya yd yl lp2_3 re wp2_4 lw2_5, aI K yk np zk, aI K yn np zn, aI K yl 64 zl2_6]) (st' := []) ([0, 1, 2, 3] : List Nat) rfl rfl rfl ?_
              refine z_iinc F (lv' := [(1, .int (iZ (i + 1))), (0, .ref y)]) 0 dX3_index_51 rfl (by decide) rfl ?_
              refine z_goto F 38 dX3_index_54 (by decide) ?_
              exact ih (i + 1) lp2_3 wp2_4 lw2_5 zl2_6 (by omega) (by omega) f8 (by omega)
        exact lp38 ((re - 0 : Int).toNat + 1) 0 (-1) 0 (-1) w (by omega) (by omega) g2_1 (Nat.lt_succ_self _)
      · refine z_aload_n F 1 dX3_index_8 rfl ?_
        refine z_get F 0 5 iX3 rfl rfl (by decide) t1_68 rfl dX3_index_9 ?_
        refine z_iload_n F 0 dX3_index_12 rfl ?_
        refine z_iconst F dX3_index_13 ?_
        refine z_iast F (ws' := [oX3 y yk yn yc ya yd yl lp re wp lw, aI K yk np zk, aI K yn np zn, aI K yl 64 (zu w i.toNat (-1))]) 3 rfl rfl dX3_index_14 (by omega) (by omega) rfl ?_
        have r9 : rng (-1) (np-1) (zu w i.toNat (-1)) := rng_zu g2_1 (by omega)
        refine z_iinc F (lv' := [(1, .int (iZ (i + 1))), (0, .ref y)]) 0 dX3_index_15 rfl (by decide) rfl ?_
        refine z_goto F 2 dX3_index_18 (by decide) ?_
        exact ih (i + 1) (zu w i.toNat (-1)) (by omega) r9 (by omega)
  exact lp2 ((64 - 0 : Int).toNat + 1) 0 zl (by omega) h2 (Nat.lt_succ_self _)
set_option maxHeartbeats 4000000 in
set_option maxRecDepth 20000 in
theorem k_X3_clear (l : Launch) (D : va_G) (K : KI) (y : Nat) (yk : Nat) (yn : Nat) (yc : Nat) (ya : Nat) (yd : Nat) (yl : Nat) (lp : Int) (re : Int) (wp : Int) (lw : Int) (np : Nat) (zk : Nat → Int) (zn : Nat → Int) (zl : Nat → Int) (h0 : 1 ≤ np ∧ np ≤ 304) (h1 : rng (-1) (np-1) zl) (h2 : nmOk zk zn) (h3 : rng 0 3 zk) : Ct lw_T l yX3_clear cX3_clear 1 none { frames := 2, cells := 0, slots := 0, locals := 42 } 0 0 D cls5 (TY K) [.ref y] [oX3 y yk yn yc ya yd yl lp re wp lw, aI K yk np zk, aI K yn np zn, aI K yl 64 zl] (fun v wo => ∃ (lp2 : Int), ∃ (lw2 : Int), ∃ (zl2 : Nat → Int), v = none ∧ wo = [oX3 y yk yn yc ya yd yl lp2 0 0 lw2, aI K yk np zk, aI K yn np zn, aI K yl 64 zl2] ∧ (-1 ≤ lp2 ∧ lp2 ≤ np - 1 ∧ -1 ≤ lw2 ∧ lw2 ≤ np - 1) ∧ (rng (-1) (np-1) zl2)) := by
  refine ct_of (own := RX3) (lv := [(0, .ref y)]) (by decide) rfl (Nat.le_of_ble_eq_true rfl) rfl (fun C F hr hnm hzl => ?_)
  subst hzl
  refine z_aload_n F 0 dX3_clear_0 rfl ?_
  refine z_iconst F dX3_clear_1 ?_
  refine z_put F (ws' := [oX3 y yk yn yc ya yd yl lp 0 wp lw, aI K yk np zk, aI K yn np zn, aI K yl 64 zl]) 0 7 iX3 tyX3 tyX3_ok nmX3 rfl rfl (by decide) t1_70 rfl rfl rfl rfl (Nat.le_of_ble_eq_true rfl) dX3_clear_2 rfl ?_
  refine z_aload_n F 0 dX3_clear_5 rfl ?_
  refine z_callV F lw_good (k_X3_index _ D K y yk yn yc ya yd yl lp 0 wp lw np zk zn zl h0 (by omega) h1 h2 h3) t1_199 t1_4 t1_196 t1_198 (q := (RX3, TX3, 10)) ts_2 ⟨rfl, rfl⟩ ndX3_index ⟨Nat.le_of_ble_eq_true rfl, Nat.le_of_ble_eq_true rfl⟩ 0 rfl rfl (rest := []) rfl (Nat.le_of_ble_eq_true rfl) dX3_clear_6 ⟨(show 0 + 0 ≤ 0 by omega), (show 0 + 0 ≤ 0 by omega)⟩ (wr := []) ([0, 1, 2, 3] : List Nat) ([] : List Nat) rfl rfl rfl rfl (by decide) (fun v wo hp => ?_)
  obtain ⟨lp2_1, wp2_2, lw2_3, zl2_4, rfl, rfl, f5, f6⟩ := hp
  refine z_re F (ws' := [oX3 y yk yn yc ya yd yl lp2_1 0 wp2_2 lw2_3, aI K yk np zk, aI K yn np zn, aI K yl 64 zl2_4]) (st' := []) ([0, 1, 2, 3] : List Nat) rfl rfl rfl ?_
  obtain rfl : wp2_2 = 0 := by omega
  exact z_vret F hr dX3_clear_9 (by omega) ⟨lp2_1, lw2_3, zl2_4, rfl, rfl, (by omega), f6⟩
end
section
theorem nmOk_zu2 {zk zn : Nat → Int} {p : Nat} {k n : Int} (h : nmOk zk zn) (hk : k = 1 → 0 ≤ n ∧ n ≤ 63) : nmOk (zu zk p k) (zu zn p n) := fun j => by
  unfold zu
  by_cases q : j = p
  · rw [if_pos q, if_pos q]; exact hk
  · rw [if_neg q, if_neg q]; exact h j
theorem nmOk_0 {zk zn : Nat → Int} {p : Nat} (h : nmOk zk zn) : nmOk (zu zk p 0) zn := fun j => by
  unfold zu
  by_cases q : j = p
  · rw [if_pos q]; intro z; exact absurd z (by decide)
  · rw [if_neg q]; exact h j
theorem nmOk_z : nmOk (fun _ => 0) (fun _ => 0) := fun _ z => absurd (show (0 : Int) = 1 from z) (by decide)
def akOk (zc za : Nat → Int) : Prop := ∀ p j : Nat, (j : Int) < zc p → 0 ≤ za (6 * p + j) ∧ za (6 * p + j) ≤ 63
theorem akOk_z {za : Nat → Int} : akOk (fun _ => 0) za := fun _ j h => absurd (show (j : Int) < 0 from h) (by omega)
theorem akOk_c0 {zc za : Nat → Int} {p : Nat} (h : akOk zc za) : akOk (zu zc p 0) za := fun q j hj => by
  unfold zu at hj
  by_cases e : q = p
  · rw [if_pos e] at hj; omega
  · rw [if_neg e] at hj; exact h q j hj
theorem akOk_at {zc za : Nat → Int} {p i : Int} (h : akOk zc za) (hp : 0 ≤ p) (hi : 0 ≤ i) (hl : i < zc p.toNat) : 0 ≤ za ((p * 6) + i).toNat ∧ za ((p * 6) + i).toNat ≤ 63 := by
  have h1 := h p.toNat i.toNat (by omega)
  rw [show ((p * 6) + i).toNat = 6 * p.toNat + i.toNat by omega]
  exact h1
theorem akOk_add {zc za : Nat → Int} {p k : Int} (h : akOk zc za) (hr : rng 0 6 zc) (hp : 0 ≤ p) (hk : 0 ≤ k ∧ k ≤ 63) (hc : zc p.toNat ≤ 5) : akOk (zu zc p.toNat (zc p.toNat + 1)) (zu za ((p * 6) + (zc p.toNat)).toNat k) := fun q j hj => by
  have h0 := hr p.toNat
  have h9 := hr q
  by_cases e : q = p.toNat
  · subst e
    rw [zu_s] at hj
    by_cases e2 : (j : Int) = zc p.toNat
    · rw [show 6 * p.toNat + j = ((p * 6) + (zc p.toNat)).toNat by omega, zu_s]; exact hk
    · rw [zu_n (by omega)]; exact h _ j (by omega)
  · rw [zu_n e] at hj
    rw [zu_n (by omega)]; exact h q j hj
def rowOk (z : Nat → Int) (pa : Int) : Prop := (1 ≤ z pa.toNat ∧ z pa.toNat ≤ 3) ∧ (z pa.toNat = 1 → 0 ≤ z (pa + 1).toNat ∧ z (pa + 1).toNat ≤ 63) ∧ (0 ≤ z (pa + 2).toNat ∧ z (pa + 2).toNat ≤ 6) ∧ ∀ j : Nat, (j : Int) < z (pa + 2).toNat → 0 ≤ z (pa + 3 + j).toNat ∧ z (pa + 3 + j).toNat ≤ 63
theorem akOk_row {zc za w z : Nat → Int} {pa p : Int} {c : Int} (hp : 0 ≤ p ∧ c ≤ 6 ∧ ∀ j, zc j ≤ 6) (h : akOk zc za) (hz : ∀ j : Nat, (j : Int) < c → 0 ≤ z (pa + 3 + j).toNat ∧ z (pa + 3 + j).toNat ≤ 63) (h1 : ∀ q j : Nat, j < 6 → ¬ (q : Int) = p → w (6 * q + j) = za (6 * q + j)) (h2 : ∀ j : Nat, j < 6 → w (6 * p.toNat + j) = z (pa + 3 + j).toNat) : akOk (zu zc p.toNat c) w := fun q j hj => by
  by_cases e : q = p.toNat
  · subst e
    rw [zu_s] at hj
    rw [h2 j (by omega)]; exact hz j hj
  · rw [zu_n e] at hj
    have := hp.2.2 q
    rw [h1 q j (by omega) (by omega)]; exact h q j hj
theorem akOk_mv {zc za w : Nat → Int} {f t : Int} (hf : 0 ≤ f) (ht : 0 ≤ t) (h : akOk zc za) (hr : rng 0 6 zc) (h1 : ∀ q j : Nat, j < 6 → ¬ (q : Int) = t → w (6 * q + j) = za (6 * q + j)) (h2 : ∀ j : Nat, j < 6 → w (6 * t.toNat + j) = za (6 * f.toNat + j)) : akOk (zu zc t.toNat (zc f.toNat)) w := fun q j hj => by
  have r1 := hr f.toNat
  have r2 := hr q
  by_cases e : q = t.toNat
  · subst e
    rw [zu_s] at hj
    rw [h2 j (by omega)]; exact h _ j hj
  · rw [zu_n e] at hj
    rw [h1 q j (by omega) (by omega)]; exact h q j hj
set_option maxHeartbeats 4000000 in
set_option maxRecDepth 20000 in
theorem k_X3_isKey (l : Launch) (D : va_G) (K : KI) (k : Int) (h0 : -2147483648 ≤ k ∧ k ≤ 2147483647) : Ct lw_T l yX3_isKey cX3_isKey 1 (some .boolean) { frames := 0, cells := 0, slots := 0, locals := 0 } 0 0 D cls5 (TY K) [.int (iZ k)] [] (fun v wo => ∃ (r : Int), v = some (.int (iZ r)) ∧ wo = [] ∧ ((r = 1 ∧ 0 ≤ k ∧ k ≤ 63) ∨ (r = 0 ∧ ¬ (0 ≤ k ∧ k ≤ 63)))) := by
  refine ct_of (own := RX3) (lv := [(0, .int (iZ k))]) (by decide) rfl (Nat.le_of_ble_eq_true rfl) rfl (fun C F hr hnm hzl => ?_)
  subst hzl
  refine z_iload_n F 0 dX3_isKey_0 rfl ?_
  refine z_if_lt F 14 dX3_isKey_1 (by decide) (by omega) (fun c1 => ?_) (fun c1 => ?_)
  · refine z_iconst F dX3_isKey_14 ?_
    exact z_zret F hr (by decide) dX3_isKey_15 (by omega) ⟨0, rfl, rfl, (by omega)⟩
  · refine z_iload_n F 0 dX3_isKey_4 rfl ?_
    refine z_bipush F dX3_isKey_5 (by decide) ?_
    refine z_icmp_ge F 14 dX3_isKey_7 (by decide) (by omega) (fun c2 => ?_) (fun c2 => ?_)
    · refine z_iconst F dX3_isKey_14 ?_
      exact z_zret F hr (by decide) dX3_isKey_15 (by omega) ⟨0, rfl, rfl, (by omega)⟩
    · refine z_iconst F dX3_isKey_10 ?_
      refine z_goto F 15 dX3_isKey_11 (by decide) ?_
      exact z_zret F hr (by decide) dX3_isKey_15 (by omega) ⟨1, rfl, rfl, (by omega)⟩
set_option maxHeartbeats 4000000 in
set_option maxRecDepth 20000 in
theorem k_X3_isUser (l : Launch) (D : va_G) (K : KI) (k : Int) (h0 : -2147483648 ≤ k ∧ k ≤ 2147483647) : Ct lw_T l yX3_isUser cX3_isUser 1 (some .boolean) { frames := 0, cells := 0, slots := 0, locals := 0 } 0 0 D cls5 (TY K) [.int (iZ k)] [] (fun v wo => ∃ (r : Int), v = some (.int (iZ r)) ∧ wo = [] ∧ ((r = 1 ∧ 0 ≤ k ∧ k ≤ 7) ∨ (r = 0 ∧ ¬ (0 ≤ k ∧ k ≤ 7)))) := by
  refine ct_of (own := RX3) (lv := [(0, .int (iZ k))]) (by decide) rfl (Nat.le_of_ble_eq_true rfl) rfl (fun C F hr hnm hzl => ?_)
  subst hzl
  refine z_iload_n F 0 dX3_isUser_0 rfl ?_
  refine z_if_lt F 14 dX3_isUser_1 (by decide) (by omega) (fun c1 => ?_) (fun c1 => ?_)
  · refine z_iconst F dX3_isUser_14 ?_
    exact z_zret F hr (by decide) dX3_isUser_15 (by omega) ⟨0, rfl, rfl, (by omega)⟩
  · refine z_iload_n F 0 dX3_isUser_4 rfl ?_
    refine z_bipush F dX3_isUser_5 (by decide) ?_
    refine z_icmp_ge F 14 dX3_isUser_7 (by decide) (by omega) (fun c2 => ?_) (fun c2 => ?_)
    · refine z_iconst F dX3_isUser_14 ?_
      exact z_zret F hr (by decide) dX3_isUser_15 (by omega) ⟨0, rfl, rfl, (by omega)⟩
    · refine z_iconst F dX3_isUser_10 ?_
      refine z_goto F 15 dX3_isUser_11 (by decide) ?_
      exact z_zret F hr (by decide) dX3_isUser_15 (by omega) ⟨1, rfl, rfl, (by omega)⟩
set_option maxHeartbeats 4000000 in
set_option maxRecDepth 20000 in
theorem k_X3_isFull (l : Launch) (D : va_G) (K : KI) (y : Nat) (yk : Nat) (yn : Nat) (yc : Nat) (ya : Nat) (yd : Nat) (yl : Nat) (lp : Int) (re : Int) (wp : Int) (lw : Int) (np : Nat) (zk : Nat → Int) (h0 : 1 ≤ np ∧ np ≤ 304) (h1 : 0 ≤ re ∧ re ≤ np) : Ct lw_T l yX3_isFull cX3_isFull 1 (some .boolean) { frames := 0, cells := 0, slots := 0, locals := 0 } 0 0 D cls5 (TY K) [.ref y] [oX3 y yk yn yc ya yd yl lp re wp lw, aI K yk np zk] (fun v wo => ∃ (r : Int), v = some (.int (iZ r)) ∧ wo = [oX3 y yk yn yc ya yd yl lp re wp lw, aI K yk np zk] ∧ ((r = 1 ∧ re = np) ∨ (r = 0 ∧ re ≤ np - 1))) := by
  refine ct_of (own := RX3) (lv := [(0, .ref y)]) (by decide) rfl (Nat.le_of_ble_eq_true rfl) rfl (fun C F hr hnm hzl => ?_)
  subst hzl
  refine z_aload_n F 0 dX3_isFull_0 rfl ?_
  refine z_get F 0 7 iX3 rfl rfl (by decide) t1_70 rfl dX3_isFull_1 ?_
  refine z_aload_n F 0 dX3_isFull_4 rfl ?_
  refine z_get F 0 0 iX3 rfl rfl (by decide) t1_63 rfl dX3_isFull_5 ?_
  refine z_alen F 1 0 rfl rfl dX3_isFull_8 ?_
  refine z_icmp_lt F 16 dX3_isFull_9 (by decide) (by omega) (fun c1 => ?_) (fun c1 => ?_)
  · refine z_iconst F dX3_isFull_16 ?_
    exact z_zret F hr (by decide) dX3_isFull_17 (by omega) ⟨0, rfl, rfl, (by omega)⟩
  · refine z_iconst F dX3_isFull_12 ?_
    refine z_goto F 17 dX3_isFull_13 (by decide) ?_
    exact z_zret F hr (by decide) dX3_isFull_17 (by omega) ⟨1, rfl, rfl, (by omega)⟩
set_option maxHeartbeats 4000000 in
set_option maxRecDepth 20000 in
theorem k_X3_kindAt (l : Launch) (D : va_G) (K : KI) (y : Nat) (yk : Nat) (yn : Nat) (yc : Nat) (ya : Nat) (yd : Nat) (yl : Nat) (lp : Int) (re : Int) (wp : Int) (lw : Int) (np : Nat) (zk : Nat → Int) (pl : Int) (h0 : 1 ≤ np ∧ np ≤ 304) (h1 : 0 ≤ re ∧ re ≤ np) (h2 : rng 0 3 zk) (h3 : -2147483648 ≤ pl ∧ pl ≤ 2147483647) : Ct lw_T l yX3_kindAt cX3_kindAt 2 (some .int) { frames := 0, cells := 0, slots := 0, locals := 0 } 0 0 D cls5 (TY K) [.ref y, .int (iZ pl)] [oX3 y yk yn yc ya yd yl lp re wp lw, aI K yk np zk] (fun v wo => ∃ (r : Int), v = some (.int (iZ r)) ∧ wo = [oX3 y yk yn yc ya yd yl lp re wp lw, aI K yk np zk] ∧ (0 ≤ r ∧ r ≤ 3) ∧ (¬ r = 0 → 0 ≤ pl ∧ pl ≤ re - 1)) := by
  refine ct_of (own := RX3) (lv := [(0, .ref y), (1, .int (iZ pl))]) (by decide) rfl (Nat.le_of_ble_eq_true rfl) rfl (fun C F hr hnm hzl => ?_)
  subst hzl
  refine z_iload_n F 1 dX3_kindAt_0 rfl ?_
  refine z_if_lt F 21 dX3_kindAt_1 (by decide) (by omega) (fun c1 => ?_) (fun c1 => ?_)
  · refine z_iconst F dX3_kindAt_21 ?_
    exact z_iret F hr dX3_kindAt_22 (by omega) ⟨0, rfl, rfl, (by omega), (by omega)⟩
  · refine z_iload_n F 1 dX3_kindAt_4 rfl ?_
    refine z_aload_n F 0 dX3_kindAt_5 rfl ?_
    refine z_get F 0 7 iX3 rfl rfl (by decide) t1_70 rfl dX3_kindAt_6 ?_
    refine z_icmp_ge F 21 dX3_kindAt_9 (by decide) (by omega) (fun c2 => ?_) (fun c2 => ?_)
    · refine z_iconst F dX3_kindAt_21 ?_
      exact z_iret F hr dX3_kindAt_22 (by omega) ⟨0, rfl, rfl, (by omega), (by omega)⟩
    · refine z_aload_n F 0 dX3_kindAt_12 rfl ?_
      refine z_get F 0 0 iX3 rfl rfl (by decide) t1_63 rfl dX3_kindAt_13 ?_
      refine z_iload_n F 1 dX3_kindAt_16 rfl ?_
      refine z_iald F 1 rfl rfl dX3_kindAt_17 (by omega) (by omega) ?_
      have r3 : 0 ≤ zk pl.toNat ∧ zk pl.toNat ≤ 3 := h2 _
      refine z_goto F 22 dX3_kindAt_18 (by decide) ?_
      exact z_iret F hr dX3_kindAt_22 (by omega) ⟨(zk pl.toNat), rfl, rfl, (by omega), (by omega)⟩
set_option maxHeartbeats 4000000 in
set_option maxRecDepth 20000 in
theorem k_X3_askCount (l : Launch) (D : va_G) (K : KI) (y : Nat) (yk : Nat) (yn : Nat) (yc : Nat) (ya : Nat) (yd : Nat) (yl : Nat) (lp : Int) (re : Int) (wp : Int) (lw : Int) (np : Nat) (zc : Nat → Int) (pl : Int) (h0 : np ≤ 304 ∧ 0 ≤ pl ∧ pl ≤ np - 1) : Ct lw_T l yX3_askCount cX3_askCount 2 (some .int) { frames := 0, cells := 0, slots := 0, locals := 0 } 0 0 D cls5 (TY K) [.ref y, .int (iZ pl)] [oX3 y yk yn yc ya yd yl lp re wp lw, aI K yc np zc] (fun v wo => v = some (.int (iZ (zc pl.toNat))) ∧ wo = [oX3 y yk yn yc ya yd yl lp re wp lw, aI K yc np zc]) := by
  refine ct_of (own := RX3) (lv := [(0, .ref y), (1, .int (iZ pl))]) (by decide) rfl (Nat.le_of_ble_eq_true rfl) rfl (fun C F hr hnm hzl => ?_)
  subst hzl
  refine z_aload_n F 0 dX3_askCount_0 rfl ?_
  refine z_get F 0 2 iX3 rfl rfl (by decide) t1_65 rfl dX3_askCount_1 ?_
  refine z_iload_n F 1 dX3_askCount_4 rfl ?_
  refine z_iald F 1 rfl rfl dX3_askCount_5 (by omega) (by omega) ?_
  exact z_iret F hr dX3_askCount_6 (by omega) ⟨rfl, rfl⟩
set_option maxHeartbeats 4000000 in
set_option maxRecDepth 20000 in
theorem k_X3_askAt (l : Launch) (D : va_G) (K : KI) (y : Nat) (yk : Nat) (yn : Nat) (yc : Nat) (ya : Nat) (yd : Nat) (yl : Nat) (lp : Int) (re : Int) (wp : Int) (lw : Int) (na : Nat) (za : Nat → Int) (pl : Int) (i : Int) (h0 : na ≤ 2000 ∧ 0 ≤ pl ∧ 0 ≤ i ∧ pl * 6 + i ≤ na - 1 ∧ pl ≤ 400) : Ct lw_T l yX3_askAt cX3_askAt 3 (some .int) { frames := 0, cells := 0, slots := 0, locals := 0 } 0 0 D cls5 (TY K) [.ref y, .int (iZ pl), .int (iZ i)] [oX3 y yk yn yc ya yd yl lp re wp lw, aI K ya na za] (fun v wo => v = some (.int (iZ (za ((pl * 6) + i).toNat))) ∧ wo = [oX3 y yk yn yc ya yd yl lp re wp lw, aI K ya na za]) := by
  refine ct_of (own := RX3) (lv := [(0, .ref y), (1, .int (iZ pl)), (2, .int (iZ i))]) (by decide) rfl (Nat.le_of_ble_eq_true rfl) rfl (fun C F hr hnm hzl => ?_)
  subst hzl
  refine z_aload_n F 0 dX3_askAt_0 rfl ?_
  refine z_get F 0 3 iX3 rfl rfl (by decide) t1_66 rfl dX3_askAt_1 ?_
  refine z_iload_n F 1 dX3_askAt_4 rfl ?_
  refine z_bipush F dX3_askAt_5 (by decide) ?_
  refine z_imul F dX3_askAt_7 ?_
  refine z_iload_n F 2 dX3_askAt_8 rfl ?_
  refine z_iadd F dX3_askAt_9 ?_
  refine z_iald F 1 rfl rfl dX3_askAt_10 (by omega) (by omega) ?_
  exact z_iret F hr dX3_askAt_11 (by omega) ⟨rfl, rfl⟩
set_option maxHeartbeats 4000000 in
set_option maxRecDepth 20000 in
theorem k_X3_digestAt (l : Launch) (D : va_G) (K : KI) (y : Nat) (yk : Nat) (yn : Nat) (yc : Nat) (ya : Nat) (yd : Nat) (yl : Nat) (lp : Int) (re : Int) (wp : Int) (lw : Int) (np : Nat) (fd : Nat → Int64) (pl : Int) (h0 : np ≤ 304 ∧ 0 ≤ pl ∧ pl ≤ np - 1) : Ct lw_T l yX3_digestAt cX3_digestAt 2 (some .long) { frames := 0, cells := 0, slots := 0, locals := 0 } 0 0 D cls5 (TY K) [.ref y, .int (iZ pl)] [oX3 y yk yn yc ya yd yl lp re wp lw, aL K yd np fd] (fun v wo => v = some (.long (fd pl.toNat)) ∧ wo = [oX3 y yk yn yc ya yd yl lp re wp lw, aL K yd np fd]) := by
  refine ct_of (own := RX3) (lv := [(0, .ref y), (1, .int (iZ pl))]) (by decide) rfl (Nat.le_of_ble_eq_true rfl) rfl (fun C F hr hnm hzl => ?_)
  subst hzl
  refine z_aload_n F 0 dX3_digestAt_0 rfl ?_
  refine z_get F 0 4 iX3 rfl rfl (by decide) t1_67 rfl dX3_digestAt_1 ?_
  refine z_iload_n F 1 dX3_digestAt_4 rfl ?_
  refine z_lald F 1 rfl rfl dX3_digestAt_5 (by omega) (by omega) ?_
  exact z_lret F hr dX3_digestAt_6 (by omega) ⟨rfl, rfl⟩
set_option maxHeartbeats 4000000 in
set_option maxRecDepth 20000 in
theorem k_X3_latest (l : Launch) (D : va_G) (K : KI) (y : Nat) (yk : Nat) (yn : Nat) (yc : Nat) (ya : Nat) (yd : Nat) (yl : Nat) (lp : Int) (re : Int) (wp : Int) (lw : Int) (zl : Nat → Int) (k : Int) (h0 : 0 ≤ k ∧ k ≤ 63) : Ct lw_T l yX3_latest cX3_latest 2 (some .int) { frames := 0, cells := 0, slots := 0, locals := 0 } 0 0 D cls5 (TY K) [.ref y, .int (iZ k)] [oX3 y yk yn yc ya yd yl lp re wp lw, aI K yl 64 zl] (fun v wo => v = some (.int (iZ (zl k.toNat))) ∧ wo = [oX3 y yk yn yc ya yd yl lp re wp lw, aI K yl 64 zl]) := by
  refine ct_of (own := RX3) (lv := [(0, .ref y), (1, .int (iZ k))]) (by decide) rfl (Nat.le_of_ble_eq_true rfl) rfl (fun C F hr hnm hzl => ?_)
  subst hzl
  refine z_aload_n F 0 dX3_latest_0 rfl ?_
  refine z_get F 0 5 iX3 rfl rfl (by decide) t1_68 rfl dX3_latest_1 ?_
  refine z_iload_n F 1 dX3_latest_4 rfl ?_
  refine z_iald F 1 rfl rfl dX3_latest_5 (by omega) (by omega) ?_
  exact z_iret F hr dX3_latest_6 (by omega) ⟨rfl, rfl⟩
set_option maxHeartbeats 4000000 in
set_option maxRecDepth 20000 in
theorem k_X3_isWrongBehind (l : Launch) (D : va_G) (K : KI) (y : Nat) (yk : Nat) (yn : Nat) (yc : Nat) (ya : Nat) (yd : Nat) (yl : Nat) (lp : Int) (re : Int) (wp : Int) (lw : Int) (pl : Int) (h0 : -1 ≤ lw ∧ lw ≤ 304 ∧ 0 ≤ pl ∧ pl ≤ 304) : Ct lw_T l yX3_isWrongBehind cX3_isWrongBehind 2 (some .boolean) { frames := 0, cells := 0, slots := 0, locals := 0 } 0 0 D cls5 (TY K) [.ref y, .int (iZ pl)] [oX3 y yk yn yc ya yd yl lp re wp lw] (fun v wo => ∃ (r : Int), v = some (.int (iZ r)) ∧ wo = [oX3 y yk yn yc ya yd yl lp re wp lw] ∧ (r = 0 ∨ r = 1)) := by
  refine ct_of (own := RX3) (lv := [(0, .ref y), (1, .int (iZ pl))]) (by decide) rfl (Nat.le_of_ble_eq_true rfl) rfl (fun C F hr hnm hzl => ?_)
  subst hzl
  refine z_aload_n F 0 dX3_isWrongBehind_0 rfl ?_
  refine z_get F 0 9 iX3 rfl rfl (by decide) t1_72 rfl dX3_isWrongBehind_1 ?_
  refine z_iload_n F 1 dX3_isWrongBehind_4 rfl ?_
  refine z_icmp_le F 12 dX3_isWrongBehind_5 (by decide) (by omega) (fun c1 => ?_) (fun c1 => ?_)
  · refine z_iconst F dX3_isWrongBehind_12 ?_
    exact z_zret F hr (by decide) dX3_isWrongBehind_13 (by omega) ⟨0, rfl, rfl, (by omega)⟩
  · refine z_iconst F dX3_isWrongBehind_8 ?_
    refine z_goto F 13 dX3_isWrongBehind_9 (by decide) ?_
    exact z_zret F hr (by decide) dX3_isWrongBehind_13 (by omega) ⟨1, rfl, rfl, (by omega)⟩
set_option maxHeartbeats 4000000 in
set_option maxRecDepth 20000 in
theorem k_X3_lockHolder (l : Launch) (D : va_G) (K : KI) (y : Nat) (yk : Nat) (yn : Nat) (yc : Nat) (ya : Nat) (yd : Nat) (yl : Nat) (lp : Int) (re : Int) (wp : Int) (lw : Int) (np : Nat) (zk : Nat → Int) (zn : Nat → Int) (h0 : 1 ≤ np ∧ np ≤ 304) (h1 : -1 ≤ lp ∧ lp ≤ np - 1) (h2 : rng 0 3 zk) (h3 : rng (-128) 127 zn) : Ct lw_T l yX3_lockHolder cX3_lockHolder 1 (some .int) { frames := 0, cells := 0, slots := 0, locals := 0 } 0 0 D cls5 (TY K) [.ref y] [oX3 y yk yn yc ya yd yl lp re wp lw, aI K yk np zk, aI K yn np zn] (fun v wo => ∃ (r : Int), v = some (.int (iZ r)) ∧ wo = [oX3 y yk yn yc ya yd yl lp re wp lw, aI K yk np zk, aI K yn np zn] ∧ (-128 ≤ r ∧ r ≤ 127)) := by
  refine ct_of (own := RX3) (lv := [(0, .ref y)]) (by decide) rfl (Nat.le_of_ble_eq_true rfl) rfl (fun C F hr hnm hzl => ?_)
  subst hzl
  refine z_aload_n F 0 dX3_lockHolder_0 rfl ?_
  refine z_get F 0 6 iX3 rfl rfl (by decide) t1_69 rfl dX3_lockHolder_1 ?_
  refine z_iconst F dX3_lockHolder_4 ?_
  refine z_icmp_eq F 33 dX3_lockHolder_5 (by decide) (by omega) (fun c1 => ?_) (fun c1 => ?_)
  · refine z_iconst F dX3_lockHolder_33 ?_
    exact z_iret F hr dX3_lockHolder_34 (by omega) ⟨(-1), rfl, rfl, (by omega)⟩
  · refine z_aload_n F 0 dX3_lockHolder_8 rfl ?_
    refine z_get F 0 0 iX3 rfl rfl (by decide) t1_63 rfl dX3_lockHolder_9 ?_
    refine z_aload_n F 0 dX3_lockHolder_12 rfl ?_
    refine z_get F 0 6 iX3 rfl rfl (by decide) t1_69 rfl dX3_lockHolder_13 ?_
    refine z_iald F 1 rfl rfl dX3_lockHolder_16 (by omega) (by omega) ?_
    have r2 : 0 ≤ zk lp.toNat ∧ zk lp.toNat ≤ 3 := h2 _
    refine z_iconst F dX3_lockHolder_17 ?_
    refine z_icmp_ne F 33 dX3_lockHolder_18 (by decide) (by omega) (fun c3 => ?_) (fun c3 => ?_)
    · refine z_iconst F dX3_lockHolder_33 ?_
      exact z_iret F hr dX3_lockHolder_34 (by omega) ⟨(-1), rfl, rfl, (by omega)⟩
    · refine z_aload_n F 0 dX3_lockHolder_21 rfl ?_
      refine z_get F 0 1 iX3 rfl rfl (by decide) t1_64 rfl dX3_lockHolder_22 ?_
      refine z_aload_n F 0 dX3_lockHolder_25 rfl ?_
      refine z_get F 0 6 iX3 rfl rfl (by decide) t1_69 rfl dX3_lockHolder_26 ?_
      refine z_iald F 2 rfl rfl dX3_lockHolder_29 (by omega) (by omega) ?_
      have r4 : (-128) ≤ zn lp.toNat ∧ zn lp.toNat ≤ 127 := h3 _
      refine z_goto F 34 dX3_lockHolder_30 (by decide) ?_
      exact z_iret F hr dX3_lockHolder_34 (by omega) ⟨(zn lp.toNat), rfl, rfl, (by omega)⟩
set_option maxHeartbeats 4000000 in
set_option maxRecDepth 20000 in
theorem k_X3_isToCopy (l : Launch) (D : va_G) (K : KI) (y : Nat) (yk : Nat) (yn : Nat) (yc : Nat) (ya : Nat) (yd : Nat) (yl : Nat) (lp : Int) (re : Int) (wp : Int) (lw : Int) (np : Nat) (zk : Nat → Int) (zn : Nat → Int) (zl : Nat → Int) (pl : Int) (h0 : np ≤ 304 ∧ 0 ≤ pl ∧ pl ≤ np - 1) (h1 : -1 ≤ lp ∧ lp ≤ np - 1 ∧ -1 ≤ lw ∧ lw ≤ np - 1) (h2 : rng 0 3 zk) (h3 : nmOk zk zn) (h4 : rng (-1) (np-1) zl) : Ct lw_T l yX3_isToCopy cX3_isToCopy 2 (some .boolean) { frames := 1, cells := 0, slots := 0, locals := 21 } 0 0 D cls5 (TY K) [.ref y, .int (iZ pl)] [oX3 y yk yn yc ya yd yl lp re wp lw, aI K yk np zk, aI K yn np zn, aI K yl 64 zl] (fun v wo => ∃ (r : Int), v = some (.int (iZ r)) ∧ wo = [oX3 y yk yn yc ya yd yl lp re wp lw, aI K yk np zk, aI K yn np zn, aI K yl 64 zl] ∧ (r = 0 ∨ r = 1)) := by
  refine ct_of (own := RX3) (lv := [(0, .ref y), (1, .int (iZ pl))]) (by decide) rfl (Nat.le_of_ble_eq_true rfl) rfl (fun C F hr hnm hzl => ?_)
  subst hzl
  refine z_aload_n F 0 dX3_isToCopy_0 rfl ?_
  refine z_get F 0 0 iX3 rfl rfl (by decide) t1_63 rfl dX3_isToCopy_1 ?_
  refine z_iload_n F 1 dX3_isToCopy_4 rfl ?_
  refine z_iald F 1 rfl rfl dX3_isToCopy_5 (by omega) (by omega) ?_
  have r1 : 0 ≤ zk pl.toNat ∧ zk pl.toNat ≤ 3 := h2 _
  refine z_iconst F dX3_isToCopy_6 ?_
  refine z_icmp_ne F 39 dX3_isToCopy_7 (by decide) (by omega) (fun c2 => ?_) (fun c2 => ?_)
  · refine z_iload_n F 1 dX3_isToCopy_39 rfl ?_
    refine z_aload_n F 0 dX3_isToCopy_40 rfl ?_
    refine z_get F 0 6 iX3 rfl rfl (by decide) t1_69 rfl dX3_isToCopy_41 ?_
    refine z_icmp_ne F 51 dX3_isToCopy_44 (by decide) (by omega) (fun c3 => ?_) (fun c3 => ?_)
    · refine z_iconst F dX3_isToCopy_51 ?_
      exact z_zret F hr (by decide) dX3_isToCopy_52 (by omega) ⟨0, rfl, rfl, (by omega)⟩
    · refine z_iconst F dX3_isToCopy_47 ?_
      refine z_goto F 52 dX3_isToCopy_48 (by decide) ?_
      exact z_zret F hr (by decide) dX3_isToCopy_52 (by omega) ⟨1, rfl, rfl, (by omega)⟩
  · have hnm1 := h3 pl.toNat (by omega)
    refine z_aload_n F 0 dX3_isToCopy_10 rfl ?_
    refine z_get F 0 5 iX3 rfl rfl (by decide) t1_68 rfl dX3_isToCopy_11 ?_
    refine z_aload_n F 0 dX3_isToCopy_14 rfl ?_
    refine z_get F 0 1 iX3 rfl rfl (by decide) t1_64 rfl dX3_isToCopy_15 ?_
    refine z_iload_n F 1 dX3_isToCopy_18 rfl ?_
    refine z_iald F 2 rfl rfl dX3_isToCopy_19 (by omega) (by omega) ?_
    refine z_iald F 3 rfl rfl dX3_isToCopy_20 (by omega) (by omega) ?_
    have r4 : (-1) ≤ zl (zn pl.toNat).toNat ∧ zl (zn pl.toNat).toNat ≤ (np-1) := h4 _
    refine z_iload_n F 1 dX3_isToCopy_21 rfl ?_
    refine z_icmp_ne F 37 dX3_isToCopy_22 (by decide) (by omega) (fun c5 => ?_) (fun c5 => ?_)
    · refine z_iconst F dX3_isToCopy_37 ?_
      exact z_zret F hr (by decide) dX3_isToCopy_38 (by omega) ⟨0, rfl, rfl, (by omega)⟩
    · refine z_aload_n F 0 dX3_isToCopy_25 rfl ?_
      refine z_iload_n F 1 dX3_isToCopy_26 rfl ?_
      refine z_callV F lw_good (k_X3_isWrongBehind _ D K y yk yn yc ya yd yl lp re wp lw pl (by omega)) t2_128 t1_4 t2_125 t2_126 (q := (RX3, TX3, 10)) t2_127 ⟨rfl, rfl⟩ ndX3_isWrongBehind ⟨Nat.le_of_ble_eq_true rfl, Nat.le_of_ble_eq_true rfl⟩ 0 rfl rfl (rest := []) rfl (Nat.le_of_ble_eq_true rfl) dX3_isToCopy_27 ⟨(show 0 + 0 ≤ 0 by omega), (show 0 + 0 ≤ 0 by omega)⟩ (wr := [aI K yk np zk, aI K yn np zn, aI K yl 64 zl]) ([0] : List Nat) ([1, 2, 3] : List Nat) rfl rfl rfl rfl (by decide) (fun v wo hp => ?_)
      obtain ⟨r_6, rfl, rfl, f7⟩ := hp
      refine z_re F (ws' := [oX3 y yk yn yc ya yd yl lp re wp lw, aI K yk np zk, aI K yn np zn, aI K yl 64 zl]) (st' := [.int (iZ r_6)]) ([3, 0, 1, 2] : List Nat) rfl rfl rfl ?_
      refine z_if_ne F 37 dX3_isToCopy_30 (by decide) (by omega) (fun c8 => ?_) (fun c8 => ?_)
      · refine z_iconst F dX3_isToCopy_37 ?_
        exact z_zret F hr (by decide) dX3_isToCopy_38 (by omega) ⟨0, rfl, rfl, (by omega)⟩
      · refine z_iconst F dX3_isToCopy_33 ?_
        refine z_goto F 38 dX3_isToCopy_34 (by decide) ?_
        exact z_zret F hr (by decide) dX3_isToCopy_38 (by omega) ⟨1, rfl, rfl, (by omega)⟩
set_option maxHeartbeats 4000000 in
set_option maxRecDepth 20000 in
theorem k_X3_areKeys (l : Launch) (D : va_G) (K : KI) (a : Nat) (n : Nat) (z : Nat → Int) (pa : Int) (cnt : Int) (h0 : n < 2147483648 ∧ 0 ≤ pa ∧ pa + 6 ≤ n) (h1 : -2147483648 ≤ cnt ∧ cnt ≤ 2147483647) (h2 : rng (-128) 127 z) : Ct lw_T l yX3_areKeys cX3_areKeys 4 (some .boolean) { frames := 1, cells := 0, slots := 0, locals := 20 } 0 0 D cls5 (TY K) [.ref a, .int (iZ pa), .int (iZ cnt)] [aB K a n z] (fun v wo => ∃ (r : Int), v = some (.int (iZ r)) ∧ wo = [aB K a n z] ∧ (r = 0 ∨ r = 1) ∧ (r = 1 → 0 ≤ cnt ∧ cnt ≤ 6 ∧ ∀ j : Nat, (j : Int) < cnt → 0 ≤ z (pa + j).toNat ∧ z (pa + j).toNat ≤ 63)) := by
  refine ct_of (own := RX3) (lv := [(0, .ref a), (1, .int (iZ pa)), (2, .int (iZ cnt))]) (by decide) rfl (Nat.le_of_ble_eq_true rfl) rfl (fun C F hr hnm hzl => ?_)
  subst hzl
  refine z_iload_n F 2 dX3_areKeys_0 rfl ?_
  refine z_if_lt F 10 dX3_areKeys_1 (by decide) (by omega) (fun c1 => ?_) (fun c1 => ?_)
  · refine z_iconst F dX3_areKeys_10 ?_
    exact z_zret F hr (by decide) dX3_areKeys_11 (by omega) ⟨0, rfl, rfl, (by omega), (by first | (intro q; exact absurd q (by decide)) | exact fun _ => ⟨by omega, by omega, fun j hj => g14_1 j (by omega)⟩)⟩
  · refine z_iload_n F 2 dX3_areKeys_4 rfl ?_
    refine z_bipush F dX3_areKeys_5 (by decide) ?_
    refine z_icmp_le F 12 dX3_areKeys_7 (by decide) (by omega) (fun c2 => ?_) (fun c2 => ?_)
    · refine z_iconst F dX3_areKeys_12 ?_
      refine z_istore_n F (lv' := [(3, .int (iZ 0)), (0, .ref a), (1, .int (iZ pa)), (2, .int (iZ cnt))]) dX3_areKeys_13 (by decide) rfl ?_
      have lp14 : ∀ (nn : Nat) (i : Int), (0 ≤ i ∧ i ≤ cnt ∧ cnt ≤ 6) → (∀ j : Nat, (j : Int) < i → 0 ≤ z (pa + j).toNat ∧ z (pa + j).toNat ≤ 63) → ((cnt - i : Int).toNat < nn) → Go C { frames := 1, cells := 0, slots := 0, locals := 20 } D cls5 4 0 0 [aB K a n z] 14 [(3, .int (iZ i)), (0, .ref a), (1, .int (iZ pa)), (2, .int (iZ cnt))] [] := by
        intro nn
        induction nn with
        | zero => intro i g14_0 g14_1 hmu; exact absurd hmu (Nat.not_lt_zero _)
        | succ nn ih =>
          intro i g14_0 g14_1 hmu
          refine z_iload_n F 0 dX3_areKeys_14 rfl ?_
          refine z_iload_n F 3 dX3_areKeys_15 rfl ?_
          refine z_icmp_ge F 38 dX3_areKeys_16 (by decide) (by omega) (fun c3 => ?_) (fun c3 => ?_)
          · refine z_iconst F dX3_areKeys_38 ?_
            exact z_zret F hr (by decide) dX3_areKeys_39 (by omega) ⟨1, rfl, rfl, (by omega), (by first | (intro q; exact absurd q (by decide)) | exact fun _ => ⟨by omega, by omega, fun j hj => g14_1 j (by omega)⟩)⟩
          · refine z_aload_n F 1 dX3_areKeys_19 rfl ?_
            refine z_iload_n F 2 dX3_areKeys_20 rfl ?_
            refine z_iload_n F 0 dX3_areKeys_21 rfl ?_
            refine z_iadd F dX3_areKeys_22 ?_
            refine z_bald F 0 rfl rfl dX3_areKeys_23 (by omega) (by omega) ?_
            have r4 : (-128) ≤ z (pa + i).toNat ∧ z (pa + i).toNat ≤ 127 := h2 _
            refine z_callS F lw_good (k_X3_isKey _ D K (z (pa + i).toNat) (by omega)) t2_3 t1_4 t2_1 t2_2 ⟨rfl, rfl⟩ ndX3_isKey ⟨Nat.le_of_ble_eq_true rfl, Nat.le_of_ble_eq_true rfl⟩ (rest := []) rfl (Nat.le_of_ble_eq_true rfl) dX3_areKeys_24 ⟨(show 0 + 0 ≤ 0 by omega), (show 0 + 0 ≤ 0 by omega)⟩ (wr := [aB K a n z]) ([] : List Nat) ([0] : List Nat) rfl rfl rfl rfl (by decide) (fun v wo hp => ?_)
            obtain ⟨r_5, rfl, rfl, f6⟩ := hp
            refine z_re F (ws' := [aB K a n z]) (st' := [.int (iZ r_5)]) ([0] : List Nat) rfl rfl rfl ?_
            refine z_if_ne F 32 dX3_areKeys_27 (by decide) (by omega) (fun c7 => ?_) (fun c7 => ?_)
            · refine z_iinc F (lv' := [(3, .int (iZ (i + 1))), (0, .ref a), (1, .int (iZ pa)), (2, .int (iZ cnt))]) 0 dX3_areKeys_32 rfl (by decide) rfl ?_
              refine z_goto F 14 dX3_areKeys_35 (by decide) ?_
              exact ih (i + 1) (by omega) (fun j hj => by rcases (show (j : Int) < i ∨ (j : Int) = i by omega) with q | q; exact g14_1 j q; rw [q]; omega) (by omega)
            · refine z_iconst F dX3_areKeys_30 ?_
              exact z_zret F hr (by decide) dX3_areKeys_31 (by omega) ⟨0, rfl, rfl, (by omega), (by first | (intro q; exact absurd q (by decide)) | exact fun _ => ⟨by omega, by omega, fun j hj => g14_1 j (by omega)⟩)⟩
      exact lp14 ((cnt - 0 : Int).toNat + 1) 0 (by omega) (fun j hj => absurd hj (by omega)) (Nat.lt_succ_self _)
    · refine z_iconst F dX3_areKeys_10 ?_
      exact z_zret F hr (by decide) dX3_areKeys_11 (by omega) ⟨0, rfl, rfl, (by omega), (by first | (intro q; exact absurd q (by decide)) | exact fun _ => ⟨by omega, by omega, fun j hj => g14_1 j (by omega)⟩)⟩
set_option maxHeartbeats 4000000 in
set_option maxRecDepth 20000 in
theorem k_X3_isRow (l : Launch) (D : va_G) (K : KI) (a : Nat) (n : Nat) (z : Nat → Int) (pa : Int) (pl : Int) (h0 : n < 2147483648 ∧ 0 ≤ pa ∧ pa + 32 ≤ n) (h1 : rng (-128) 127 z) : Ct lw_T l yX3_isRow cX3_isRow 6 (some .boolean) { frames := 2, cells := 0, slots := 0, locals := 49 } 0 0 D cls5 (TY K) [.ref a, .int (iZ pa), .int (iZ pl)] [aB K a n z] (fun v wo => ∃ (r : Int), v = some (.int (iZ r)) ∧ wo = [aB K a n z] ∧ (r = 0 ∨ r = 1) ∧ (r = 1 → rowOk z pa)) := by
  refine ct_of (own := RX3) (lv := [(0, .ref a), (1, .int (iZ pa)), (2, .int (iZ pl))]) (by decide) rfl (Nat.le_of_ble_eq_true rfl) rfl (fun C F hr hnm hzl => ?_)
  subst hzl
  refine z_aload_n F 0 dX3_isRow_0 rfl ?_
  refine z_iload_n F 1 dX3_isRow_1 rfl ?_
  refine z_bald F 0 rfl rfl dX3_isRow_2 (by omega) (by omega) ?_
  have r1 : (-128) ≤ z pa.toNat ∧ z pa.toNat ≤ 127 := h1 _
  refine z_istore_n F (lv' := [(3, .int (iZ (z pa.toNat))), (0, .ref a), (1, .int (iZ pa)), (2, .int (iZ pl))]) dX3_isRow_3 (by decide) rfl ?_
  refine z_aload_n F 1 dX3_isRow_4 rfl ?_
  refine z_iload_n F 2 dX3_isRow_5 rfl ?_
  refine z_iconst F dX3_isRow_6 ?_
  refine z_iadd F dX3_isRow_7 ?_
  refine z_bald F 0 rfl rfl dX3_isRow_8 (by omega) (by omega) ?_
  have r2 : (-128) ≤ z (pa + 1).toNat ∧ z (pa + 1).toNat ≤ 127 := h1 _
  refine z_istore F (lv' := [(4, .int (iZ (z (pa + 1).toNat))), (3, .int (iZ (z pa.toNat))), (0, .ref a), (1, .int (iZ pa)), (2, .int (iZ pl))]) dX3_isRow_9 (by decide) rfl ?_
  refine z_aload_n F 2 dX3_isRow_11 rfl ?_
  refine z_iload_n F 3 dX3_isRow_12 rfl ?_
  refine z_iconst F dX3_isRow_13 ?_
  refine z_iadd F dX3_isRow_14 ?_
  refine z_bald F 0 rfl rfl dX3_isRow_15 (by omega) (by omega) ?_
  have r3 : (-128) ≤ z (pa + 2).toNat ∧ z (pa + 2).toNat ≤ 127 := h1 _
  refine z_istore F (lv' := [(5, .int (iZ (z (pa + 2).toNat))), (4, .int (iZ (z (pa + 1).toNat))), (3, .int (iZ (z pa.toNat))), (0, .ref a), (1, .int (iZ pa)), (2, .int (iZ pl))]) dX3_isRow_16 (by decide) rfl ?_
  refine z_iload_n F 2 dX3_isRow_18 rfl ?_
  refine z_iconst F dX3_isRow_19 ?_
  refine z_icmp_ne F 45 dX3_isRow_20 (by decide) (by omega) (fun c4 => ?_) (fun c4 => ?_)
  · refine z_iload_n F 2 dX3_isRow_45 rfl ?_
    refine z_iconst F dX3_isRow_46 ?_
    refine z_icmp_eq F 55 dX3_isRow_47 (by decide) (by omega) (fun c5 => ?_) (fun c5 => ?_)
    · refine z_iload F 1 dX3_isRow_55 rfl ?_
      refine z_callS F lw_good (k_X3_isUser _ D K (z (pa + 1).toNat) (by omega)) t2_9 t1_4 t2_7 t2_8 ⟨rfl, rfl⟩ ndX3_isUser ⟨Nat.le_of_ble_eq_true rfl, Nat.le_of_ble_eq_true rfl⟩ (rest := []) rfl (Nat.le_of_ble_eq_true rfl) dX3_isRow_57 ⟨(show 0 + 0 ≤ 0 by omega), (show 0 + 0 ≤ 0 by omega)⟩ (wr := [aB K a n z]) ([] : List Nat) ([0] : List Nat) rfl rfl rfl rfl (by decide) (fun v wo hp => ?_)
      obtain ⟨r_6, rfl, rfl, f7⟩ := hp
      refine z_re F (ws' := [aB K a n z]) (st' := [.int (iZ r_6)]) ([0] : List Nat) rfl rfl rfl ?_
      refine z_if_eq F 68 dX3_isRow_60 (by decide) (by omega) (fun c8 => ?_) (fun c8 => ?_)
      · refine z_iconst F dX3_isRow_68 ?_
        exact z_zret F hr (by decide) dX3_isRow_69 (by omega) ⟨0, rfl, rfl, (by omega), (by first | (intro q; exact absurd q (by decide)) | (intro _; have hak2 := hak (by omega); exact ⟨by omega, fun _ => by omega, by omega, fun j hj => by have q := hak2.2.2 j hj; rw [show pa + 3 + (j : Int) = pa + 3 + j from rfl]; exact q⟩) | exact fun _ => ⟨by omega, fun q => by omega, by omega, fun j hj => absurd hj (by omega)⟩)⟩
      · refine z_iload F 0 dX3_isRow_63 rfl ?_
        refine z_if_eq F 70 dX3_isRow_65 (by decide) (by omega) (fun c9 => ?_) (fun c9 => ?_)
        · refine z_aload_n F 3 dX3_isRow_70 rfl ?_
          refine z_iload_n F 4 dX3_isRow_71 rfl ?_
          refine z_bipush F dX3_isRow_72 (by decide) ?_
          refine z_iload_n F 5 dX3_isRow_74 rfl ?_
          refine z_callS F lw_good (k_X2_hasSum _ D K a n z pa 28 pl (by omega)) t1_172 t1_8 t2_10 t1_171 ⟨rfl, rfl⟩ ndX2_hasSum ⟨Nat.le_of_ble_eq_true rfl, Nat.le_of_ble_eq_true rfl⟩ (rest := []) rfl (Nat.le_of_ble_eq_true rfl) dX3_isRow_75 ⟨(show 0 + 0 ≤ 0 by omega), (show 0 + 0 ≤ 0 by omega)⟩ (wr := []) ([0] : List Nat) ([] : List Nat) rfl rfl rfl rfl (by decide) (fun v wo hp => ?_)
          obtain ⟨r_10, rfl, rfl, f11, f12⟩ := hp
          refine z_re F (ws' := [aB K a n z]) (st' := [.int (iZ r_10)]) ([0] : List Nat) rfl rfl rfl ?_
          have hgr := f11
          exact z_zret F hr (nar01 hgr) dX3_isRow_78 (by omega) ⟨r_10, rfl, rfl, f11, (by first | (intro q; exact absurd q (by decide)) | (intro _; have hak2 := hak (by omega); exact ⟨by omega, fun _ => by omega, by omega, fun j hj => by have q := hak2.2.2 j hj; rw [show pa + 3 + (j : Int) = pa + 3 + j from rfl]; exact q⟩) | exact fun _ => ⟨by omega, fun q => by omega, by omega, fun j hj => absurd hj (by omega)⟩)⟩
        · refine z_iconst F dX3_isRow_68 ?_
          exact z_zret F hr (by decide) dX3_isRow_69 (by omega) ⟨0, rfl, rfl, (by omega), (by first | (intro q; exact absurd q (by decide)) | (intro _; have hak2 := hak (by omega); exact ⟨by omega, fun _ => by omega, by omega, fun j hj => by have q := hak2.2.2 j hj; rw [show pa + 3 + (j : Int) = pa + 3 + j from rfl]; exact q⟩) | exact fun _ => ⟨by omega, fun q => by omega, by omega, fun j hj => absurd hj (by omega)⟩)⟩
    · refine z_iload_n F 2 dX3_isRow_50 rfl ?_
      refine z_iconst F dX3_isRow_51 ?_
      refine z_icmp_ne F 68 dX3_isRow_52 (by decide) (by omega) (fun c13 => ?_) (fun c13 => ?_)
      · refine z_iconst F dX3_isRow_68 ?_
        exact z_zret F hr (by decide) dX3_isRow_69 (by omega) ⟨0, rfl, rfl, (by omega), (by first | (intro q; exact absurd q (by decide)) | (intro _; have hak2 := hak (by omega); exact ⟨by omega, fun _ => by omega, by omega, fun j hj => by have q := hak2.2.2 j hj; rw [show pa + 3 + (j : Int) = pa + 3 + j from rfl]; exact q⟩) | exact fun _ => ⟨by omega, fun q => by omega, by omega, fun j hj => absurd hj (by omega)⟩)⟩
      · refine z_iload F 1 dX3_isRow_55 rfl ?_
        refine z_callS F lw_good (k_X3_isUser _ D K (z (pa + 1).toNat) (by omega)) t2_9 t1_4 t2_7 t2_8 ⟨rfl, rfl⟩ ndX3_isUser ⟨Nat.le_of_ble_eq_true rfl, Nat.le_of_ble_eq_true rfl⟩ (rest := []) rfl (Nat.le_of_ble_eq_true rfl) dX3_isRow_57 ⟨(show 0 + 0 ≤ 0 by omega), (show 0 + 0 ≤ 0 by omega)⟩ (wr := [aB K a n z]) ([] : List Nat) ([0] : List Nat) rfl rfl rfl rfl (by decide) (fun v wo hp => ?_)
        obtain ⟨r_14, rfl, rfl, f15⟩ := hp
        refine z_re F (ws' := [aB K a n z]) (st' := [.int (iZ r_14)]) ([0] : List Nat) rfl rfl rfl ?_
        refine z_if_eq F 68 dX3_isRow_60 (by decide) (by omega) (fun c16 => ?_) (fun c16 => ?_)
        · refine z_iconst F dX3_isRow_68 ?_
          exact z_zret F hr (by decide) dX3_isRow_69 (by omega) ⟨0, rfl, rfl, (by omega), (by first | (intro q; exact absurd q (by decide)) | (intro _; have hak2 := hak (by omega); exact ⟨by omega, fun _ => by omega, by omega, fun j hj => by have q := hak2.2.2 j hj; rw [show pa + 3 + (j : Int) = pa + 3 + j from rfl]; exact q⟩) | exact fun _ => ⟨by omega, fun q => by omega, by omega, fun j hj => absurd hj (by omega)⟩)⟩
        · refine z_iload F 0 dX3_isRow_63 rfl ?_
          refine z_if_eq F 70 dX3_isRow_65 (by decide) (by omega) (fun c17 => ?_) (fun c17 => ?_)
          · refine z_aload_n F 3 dX3_isRow_70 rfl ?_
            refine z_iload_n F 4 dX3_isRow_71 rfl ?_
            refine z_bipush F dX3_isRow_72 (by decide) ?_
            refine z_iload_n F 5 dX3_isRow_74 rfl ?_
            refine z_callS F lw_good (k_X2_hasSum _ D K a n z pa 28 pl (by omega)) t1_172 t1_8 t2_10 t1_171 ⟨rfl, rfl⟩ ndX2_hasSum ⟨Nat.le_of_ble_eq_true rfl, Nat.le_of_ble_eq_true rfl⟩ (rest := []) rfl (Nat.le_of_ble_eq_true rfl) dX3_isRow_75 ⟨(show 0 + 0 ≤ 0 by omega), (show 0 + 0 ≤ 0 by omega)⟩ (wr := []) ([0] : List Nat) ([] : List Nat) rfl rfl rfl rfl (by decide) (fun v wo hp => ?_)
            obtain ⟨r_18, rfl, rfl, f19, f20⟩ := hp
            refine z_re F (ws' := [aB K a n z]) (st' := [.int (iZ r_18)]) ([0] : List Nat) rfl rfl rfl ?_
            have hgr := f19
            exact z_zret F hr (nar01 hgr) dX3_isRow_78 (by omega) ⟨r_18, rfl, rfl, f19, (by first | (intro q; exact absurd q (by decide)) | (intro _; have hak2 := hak (by omega); exact ⟨by omega, fun _ => by omega, by omega, fun j hj => by have q := hak2.2.2 j hj; rw [show pa + 3 + (j : Int) = pa + 3 + j from rfl]; exact q⟩) | exact fun _ => ⟨by omega, fun q => by omega, by omega, fun j hj => absurd hj (by omega)⟩)⟩
          · refine z_iconst F dX3_isRow_68 ?_
            exact z_zret F hr (by decide) dX3_isRow_69 (by omega) ⟨0, rfl, rfl, (by omega), (by first | (intro q; exact absurd q (by decide)) | (intro _; have hak2 := hak (by omega); exact ⟨by omega, fun _ => by omega, by omega, fun j hj => by have q := hak2.2.2 j hj; rw [show pa + 3 + (j : Int) = pa + 3 + j from rfl]; exact q⟩) | exact fun _ => ⟨by omega, fun q => by omega, by omega, fun j hj => absurd hj (by omega)⟩)⟩
  · refine z_iload F 1 dX3_isRow_23 rfl ?_
    refine z_callS F lw_good (k_X3_isKey _ D K (z (pa + 1).toNat) (by omega)) t2_3 t1_4 t2_1 t2_2 ⟨rfl, rfl⟩ ndX3_isKey ⟨Nat.le_of_ble_eq_true rfl, Nat.le_of_ble_eq_true rfl⟩ (rest := []) rfl (Nat.le_of_ble_eq_true rfl) dX3_isRow_25 ⟨(show 0 + 0 ≤ 0 by omega), (show 0 + 0 ≤ 0 by omega)⟩ (wr := [aB K a n z]) ([] : List Nat) ([0] : List Nat) rfl rfl rfl rfl (by decide) (fun v wo hp => ?_)
    obtain ⟨r_21, rfl, rfl, f22⟩ := hp
    refine z_re F (ws' := [aB K a n z]) (st' := [.int (iZ r_21)]) ([0] : List Nat) rfl rfl rfl ?_
    refine z_if_eq F 43 dX3_isRow_28 (by decide) (by omega) (fun c23 => ?_) (fun c23 => ?_)
    · refine z_iconst F dX3_isRow_43 ?_
      exact z_zret F hr (by decide) dX3_isRow_44 (by omega) ⟨0, rfl, rfl, (by omega), (by first | (intro q; exact absurd q (by decide)) | (intro _; have hak2 := hak (by omega); exact ⟨by omega, fun _ => by omega, by omega, fun j hj => by have q := hak2.2.2 j hj; rw [show pa + 3 + (j : Int) = pa + 3 + j from rfl]; exact q⟩) | exact fun _ => ⟨by omega, fun q => by omega, by omega, fun j hj => absurd hj (by omega)⟩)⟩
    · refine z_aload_n F 3 dX3_isRow_31 rfl ?_
      refine z_iload_n F 4 dX3_isRow_32 rfl ?_
      refine z_iconst F dX3_isRow_33 ?_
      refine z_iadd F dX3_isRow_34 ?_
      refine z_iload F 0 dX3_isRow_35 rfl ?_
      refine z_callS F lw_good (k_X3_areKeys _ D K a n z (pa + 3) (z (pa + 2).toNat) (by omega) (by omega) h1) t2_6 t1_4 t2_4 t2_5 ⟨rfl, rfl⟩ ndX3_areKeys ⟨Nat.le_of_ble_eq_true rfl, Nat.le_of_ble_eq_true rfl⟩ (rest := []) rfl (Nat.le_of_ble_eq_true rfl) dX3_isRow_37 ⟨(show 0 + 0 ≤ 0 by omega), (show 0 + 0 ≤ 0 by omega)⟩ (wr := []) ([0] : List Nat) ([] : List Nat) rfl rfl rfl rfl (by decide) (fun v wo hp => ?_)
      obtain ⟨r_24, rfl, rfl, f25, f26⟩ := hp
      refine z_re F (ws' := [aB K a n z]) (st' := [.int (iZ r_24)]) ([0] : List Nat) rfl rfl rfl ?_
      have hak := f26
      refine z_if_ne F 70 dX3_isRow_40 (by decide) (by omega) (fun c27 => ?_) (fun c27 => ?_)
      · refine z_aload_n F 3 dX3_isRow_70 rfl ?_
        refine z_iload_n F 4 dX3_isRow_71 rfl ?_
        refine z_bipush F dX3_isRow_72 (by decide) ?_
        refine z_iload_n F 5 dX3_isRow_74 rfl ?_
        refine z_callS F lw_good (k_X2_hasSum _ D K a n z pa 28 pl (by omega)) t1_172 t1_8 t2_10 t1_171 ⟨rfl, rfl⟩ ndX2_hasSum ⟨Nat.le_of_ble_eq_true rfl, Nat.le_of_ble_eq_true rfl⟩ (rest := []) rfl (Nat.le_of_ble_eq_true rfl) dX3_isRow_75 ⟨(show 0 + 0 ≤ 0 by omega), (show 0 + 0 ≤ 0 by omega)⟩ (wr := []) ([0] : List Nat) ([] : List Nat) rfl rfl rfl rfl (by decide) (fun v wo hp => ?_)
        obtain ⟨r_28, rfl, rfl, f29, f30⟩ := hp
        refine z_re F (ws' := [aB K a n z]) (st' := [.int (iZ r_28)]) ([0] : List Nat) rfl rfl rfl ?_
        have hgr := f29
        exact z_zret F hr (nar01 hgr) dX3_isRow_78 (by omega) ⟨r_28, rfl, rfl, f29, (by first | (intro q; exact absurd q (by decide)) | (intro _; have hak2 := hak (by omega); exact ⟨by omega, fun _ => by omega, by omega, fun j hj => by have q := hak2.2.2 j hj; rw [show pa + 3 + (j : Int) = pa + 3 + j from rfl]; exact q⟩) | exact fun _ => ⟨by omega, fun q => by omega, by omega, fun j hj => absurd hj (by omega)⟩)⟩
      · refine z_iconst F dX3_isRow_43 ?_
        exact z_zret F hr (by decide) dX3_isRow_44 (by omega) ⟨0, rfl, rfl, (by omega), (by first | (intro q; exact absurd q (by decide)) | (intro _; have hak2 := hak (by omega); exact ⟨by omega, fun _ => by omega, by omega, fun j hj => by have q := hak2.2.2 j hj; rw [show pa + 3 + (j : Int) = pa + 3 + j from rfl]; exact q⟩) | exact fun _ => ⟨by omega, fun q => by omega, by omega, fun j hj => absurd hj (by omega)⟩)⟩
set_option maxHeartbeats 4000000 in
set_option maxRecDepth 20000 in
theorem k_X3_readRow (l : Launch) (D : va_G) (K : KI) (y : Nat) (yk : Nat) (yn : Nat) (yc : Nat) (ya : Nat) (yd : Nat) (yl : Nat) (lp : Int) (re : Int) (wp : Int) (lw : Int) (np : Nat) (na : Nat) (zk : Nat → Int) (zn : Nat → Int) (zc : Nat → Int) (za : Nat → Int) (fd : Nat → Int64) (a : Nat) (n : Nat) (z : Nat → Int) (pa : Int) (pl : Int) (h0 : 1 ≤ np ∧ np ≤ 304 ∧ (na : Int) = 6 * np) (h1 : 0 ≤ pl ∧ pl ≤ np - 1) (h2 : n < 2147483648 ∧ 0 ≤ pa ∧ pa + 32 ≤ n) (h3 : rowOk z pa) (h4 : rng (-128) 127 z) (h5 : rng 0 3 zk) (h6 : rng (-128) 127 zn) (h7 : nmOk zk zn) (h8 : rng 0 6 zc) (h9 : rng (-128) 127 za) (h10 : akOk zc za) : Ct lw_T l yX3_readRow cX3_readRow 5 none { frames := 1, cells := 0, slots := 0, locals := 25 } 0 0 D cls5 (TY K) [.ref y, .ref a, .int (iZ pa), .int (iZ pl)] [oX3 y yk yn yc ya yd yl lp re wp lw, aI K yk np zk, aI K yn np zn, aI K yc np zc, aI K ya na za, aL K yd np fd, aB K a n z] (fun v wo => ∃ (zk2 : Nat → Int), ∃ (zn2 : Nat → Int), ∃ (zc2 : Nat → Int), ∃ (za2 : Nat → Int), ∃ (fd2 : Nat → Int64), v = none ∧ wo = [oX3 y yk yn yc ya yd yl lp re wp lw, aI K yk np zk2, aI K yn np zn2, aI K yc np zc2, aI K ya na za2, aL K yd np fd2, aB K a n z] ∧ (rng 0 3 zk2) ∧ (rng (-128) 127 zn2) ∧ (nmOk zk2 zn2) ∧ (rng 0 6 zc2) ∧ (rng (-128) 127 za2) ∧ (akOk zc2 za2)) := by
  refine ct_of (own := RX3) (lv := [(0, .ref y), (1, .ref a), (2, .int (iZ pa)), (3, .int (iZ pl))]) (by decide) rfl (Nat.le_of_ble_eq_true rfl) rfl (fun C F hr hnm hzl => ?_)
  subst hzl
  obtain ⟨rk1, rk2, rk3, rk4⟩ := h3
  refine z_aload_n F 0 dX3_readRow_0 rfl ?_
  refine z_get F 0 0 iX3 rfl rfl (by decide) t1_63 rfl dX3_readRow_1 ?_
  refine z_iload_n F 3 dX3_readRow_4 rfl ?_
  refine z_aload_n F 1 dX3_readRow_5 rfl ?_
  refine z_iload_n F 2 dX3_readRow_6 rfl ?_
  refine z_bald F 6 rfl rfl dX3_readRow_7 (by omega) (by omega) ?_
  have r1 : (-128) ≤ z pa.toNat ∧ z pa.toNat ≤ 127 := h4 _
  refine z_iast F (ws' := [oX3 y yk yn yc ya yd yl lp re wp lw, aI K yk np (zu zk pl.toNat (z pa.toNat)), aI K yn np zn, aI K yc np zc, aI K ya na za, aL K yd np fd, aB K a n z]) 1 rfl rfl dX3_readRow_8 (by omega) (by omega) rfl ?_
  have r2 : rng 0 3 (zu zk pl.toNat (z pa.toNat)) := rng_zu h5 (by omega)
  refine z_aload_n F 0 dX3_readRow_9 rfl ?_
  refine z_get F 0 1 iX3 rfl rfl (by decide) t1_64 rfl dX3_readRow_10 ?_
  refine z_iload_n F 3 dX3_readRow_13 rfl ?_
  refine z_aload_n F 1 dX3_readRow_14 rfl ?_
  refine z_iload_n F 2 dX3_readRow_15 rfl ?_
  refine z_iconst F dX3_readRow_16 ?_
  refine z_iadd F dX3_readRow_17 ?_
  refine z_bald F 6 rfl rfl dX3_readRow_18 (by omega) (by omega) ?_
  have r3 : (-128) ≤ z (pa + 1).toNat ∧ z (pa + 1).toNat ≤ 127 := h4 _
  refine z_iast F (ws' := [oX3 y yk yn yc ya yd yl lp re wp lw, aI K yk np (zu zk pl.toNat (z pa.toNat)), aI K yn np (zu zn pl.toNat (z (pa + 1).toNat)), aI K yc np zc, aI K ya na za, aL K yd np fd, aB K a n z]) 2 rfl rfl dX3_readRow_19 (by omega) (by omega) rfl ?_
  have r4 : rng (-128) 127 (zu zn pl.toNat (z (pa + 1).toNat)) := rng_zu h6 (by omega)
  refine z_aload_n F 0 dX3_readRow_20 rfl ?_
  refine z_get F 0 2 iX3 rfl rfl (by decide) t1_65 rfl dX3_readRow_21 ?_
  refine z_iload_n F 3 dX3_readRow_24 rfl ?_
  refine z_aload_n F 1 dX3_readRow_25 rfl ?_
  refine z_iload_n F 2 dX3_readRow_26 rfl ?_
  refine z_iconst F dX3_readRow_27 ?_
  refine z_iadd F dX3_readRow_28 ?_
  refine z_bald F 6 rfl rfl dX3_readRow_29 (by omega) (by omega) ?_
  have r5 : (-128) ≤ z (pa + 2).toNat ∧ z (pa + 2).toNat ≤ 127 := h4 _
  refine z_iast F (ws' := [oX3 y yk yn yc ya yd yl lp re wp lw, aI K yk np (zu zk pl.toNat (z pa.toNat)), aI K yn np (zu zn pl.toNat (z (pa + 1).toNat)), aI K yc np (zu zc pl.toNat (z (pa + 2).toNat)), aI K ya na za, aL K yd np fd, aB K a n z]) 3 rfl rfl dX3_readRow_30 (by omega) (by omega) rfl ?_
  have r6 : rng 0 6 (zu zc pl.toNat (z (pa + 2).toNat)) := rng_zu h8 (by omega)
  refine z_iconst F dX3_readRow_31 ?_
  refine z_istore F (lv' := [(4, .int (iZ 0)), (0, .ref y), (1, .ref a), (2, .int (iZ pa)), (3, .int (iZ pl))]) dX3_readRow_32 (by decide) rfl ?_
  have lp34 : ∀ (nn : Nat) (i : Int) (w : Nat → Int), (0 ≤ i ∧ i ≤ 6) → (rng (-128) 127 w) → (∀ q j : Nat, j < 6 → ¬ (q : Int) = pl → w (6 * q + j) = za (6 * q + j)) → (∀ j : Nat, (j : Int) < i → w (6 * pl.toNat + j) = z (pa + 3 + j).toNat) → ((6 - i : Int).toNat < nn) → Go C { frames := 1, cells := 0, slots := 0, locals := 25 } D cls5 5 0 0 [oX3 y yk yn yc ya yd yl lp re wp lw, aI K yk np (zu zk pl.toNat (z pa.toNat)), aI K yn np (zu zn pl.toNat (z (pa + 1).toNat)), aI K yc np (zu zc pl.toNat (z (pa + 2).toNat)), aI K ya na w, aL K yd np fd, aB K a n z] 34 [(4, .int (iZ i)), (0, .ref y), (1, .ref a), (2, .int (iZ pa)), (3, .int (iZ pl))] [] := by
    intro nn
    induction nn with
    | zero => intro i w g34_0 g34_1 g34_2 g34_3 hmu; exact absurd hmu (Nat.not_lt_zero _)
    | succ nn ih =>
      intro i w g34_0 g34_1 g34_2 g34_3 hmu
      refine z_iload F 0 dX3_readRow_34 rfl ?_
      refine z_bipush F dX3_readRow_36 (by decide) ?_
      refine z_icmp_ge F 67 dX3_readRow_38 (by decide) (by omega) (fun c7 => ?_) (fun c7 => ?_)
      · refine z_aload_n F 1 dX3_readRow_67 rfl ?_
        refine z_get F 0 4 iX3 rfl rfl (by decide) t1_67 rfl dX3_readRow_68 ?_
        refine z_iload_n F 4 dX3_readRow_71 rfl ?_
        refine z_aload_n F 1 dX3_readRow_72 rfl ?_
        refine z_get F 0 0 iX3 rfl rfl (by decide) t1_63 rfl dX3_readRow_73 ?_
        refine z_iload_n F 4 dX3_readRow_76 rfl ?_
        refine z_iald F 1 rfl rfl dX3_readRow_77 (by omega) (by omega) ?_
        have r8 : 0 ≤ (zu zk pl.toNat (z pa.toNat)) pl.toNat ∧ (zu zk pl.toNat (z pa.toNat)) pl.toNat ≤ 3 := r2 _
        refine z_iconst F dX3_readRow_78 ?_
        refine z_icmp_ne F 95 dX3_readRow_79 (by decide) (by omega) (fun c9 => ?_) (fun c9 => ?_)
        · refine z_lconst F (v := 0) dX3_readRow_95 (by decide) ?_
          refine z_last F (ws' := [oX3 y yk yn yc ya yd yl lp re wp lw, aI K yk np (zu zk pl.toNat (z pa.toNat)), aI K yn np (zu zn pl.toNat (z (pa + 1).toNat)), aI K yc np (zu zc pl.toNat (z (pa + 2).toNat)), aI K ya na w, aL K yd np (vp_updL fd pl.toNat 0), aB K a n z]) 5 rfl rfl dX3_readRow_96 (by omega) (by omega) rfl ?_
          exact z_vret F hr dX3_readRow_97 (by omega) ⟨(zu zk pl.toNat (z pa.toNat)), (zu zn pl.toNat (z (pa + 1).toNat)), (zu zc pl.toNat (z (pa + 2).toNat)), w, (vp_updL fd pl.toNat 0), rfl, rfl, r2, r4, (by first | assumption | exact nmOk_zu2 (by assumption) (by omega) | exact nmOk_0 (by assumption) | exact nmOk_z), r6, g34_1, (akOk_row ⟨by omega, by omega, fun j => (h8 j).2⟩ h10 rk4 g34_2 (fun j hj => g34_3 j (by omega)))⟩
        · refine z_aload_n F 2 dX3_readRow_82 rfl ?_
          refine z_iload_n F 3 dX3_readRow_83 rfl ?_
          refine z_bipush F dX3_readRow_84 (by decide) ?_
          refine z_iadd F dX3_readRow_86 ?_
          refine z_bipush F dX3_readRow_87 (by decide) ?_
          refine z_callS F lw_good (k_X2_read _ D K a n z (pa + 16) 8 (by omega)) t1_164 t1_8 t2_15 t1_163 ⟨rfl, rfl⟩ ndX2_read ⟨Nat.le_of_ble_eq_true rfl, Nat.le_of_ble_eq_true rfl⟩ (rest := [.int (iZ pl), .ref yd]) rfl (Nat.le_of_ble_eq_true rfl) dX3_readRow_89 ⟨(show 0 + 0 ≤ 0 by omega), (show 0 + 0 ≤ 0 by omega)⟩ (wr := [oX3 y yk yn yc ya yd yl lp re wp lw, aI K yk np (zu zk pl.toNat (z pa.toNat)), aI K yn np (zu zn pl.toNat (z (pa + 1).toNat)), aI K yc np (zu zc pl.toNat (z (pa + 2).toNat)), aI K ya na w, aL K yd np fd]) ([6] : List Nat) ([0, 1, 2, 3, 4, 5] : List Nat) rfl rfl rfl rfl (by decide) (fun v wo hp => ?_)
          obtain ⟨r_10, rfl, rfl, f11⟩ := hp
          refine z_re F (ws' := [oX3 y yk yn yc ya yd yl lp re wp lw, aI K yk np (zu zk pl.toNat (z pa.toNat)), aI K yn np (zu zn pl.toNat (z (pa + 1).toNat)), aI K yc np (zu zc pl.toNat (z (pa + 2).toNat)), aI K ya na w, aL K yd np fd, aB K a n z]) (st' := [.long r_10, .int (iZ pl), .ref yd]) ([0, 1, 2, 3, 4, 5, 6] : List Nat) rfl rfl rfl ?_
          refine z_goto F 96 dX3_readRow_92 (by decide) ?_
          refine z_last F (ws' := [oX3 y yk yn yc ya yd yl lp re wp lw, aI K yk np (zu zk pl.toNat (z pa.toNat)), aI K yn np (zu zn pl.toNat (z (pa + 1).toNat)), aI K yc np (zu zc pl.toNat (z (pa + 2).toNat)), aI K ya na w, aL K yd np (vp_updL fd pl.toNat r_10), aB K a n z]) 5 rfl rfl dX3_readRow_96 (by omega) (by omega) rfl ?_
          exact z_vret F hr dX3_readRow_97 (by omega) ⟨(zu zk pl.toNat (z pa.toNat)), (zu zn pl.toNat (z (pa + 1).toNat)), (zu zc pl.toNat (z (pa + 2).toNat)), w, (vp_updL fd pl.toNat r_10), rfl, rfl, r2, r4, (by first | assumption | exact nmOk_zu2 (by assumption) (by omega) | exact nmOk_0 (by assumption) | exact nmOk_z), r6, g34_1, (akOk_row ⟨by omega, by omega, fun j => (h8 j).2⟩ h10 rk4 g34_2 (fun j hj => g34_3 j (by omega)))⟩
      · refine z_aload_n F 1 dX3_readRow_41 rfl ?_
        refine z_get F 0 3 iX3 rfl rfl (by decide) t1_66 rfl dX3_readRow_42 ?_
        refine z_iload_n F 4 dX3_readRow_45 rfl ?_
        refine z_bipush F dX3_readRow_46 (by decide) ?_
        refine z_imul F dX3_readRow_48 ?_
        refine z_iload F 0 dX3_readRow_49 rfl ?_
        refine z_iadd F dX3_readRow_51 ?_
        refine z_aload_n F 2 dX3_readRow_52 rfl ?_
        refine z_iload_n F 3 dX3_readRow_53 rfl ?_
        refine z_iconst F dX3_readRow_54 ?_
        refine z_iadd F dX3_readRow_55 ?_
        refine z_iload F 0 dX3_readRow_56 rfl ?_
        refine z_iadd F dX3_readRow_58 ?_
        refine z_bald F 6 rfl rfl dX3_readRow_59 (by omega) (by omega) ?_
        have r12 : (-128) ≤ z ((pa + 3) + i).toNat ∧ z ((pa + 3) + i).toNat ≤ 127 := h4 _
        refine z_iast F (ws' := [oX3 y yk yn yc ya yd yl lp re wp lw, aI K yk np (zu zk pl.toNat (z pa.toNat)), aI K yn np (zu zn pl.toNat (z (pa + 1).toNat)), aI K yc np (zu zc pl.toNat (z (pa + 2).toNat)), aI K ya na (zu w ((pl * 6) + i).toNat (z ((pa + 3) + i).toNat)), aL K yd np fd, aB K a n z]) 4 rfl rfl dX3_readRow_60 (by omega) (by omega) rfl ?_
        have r13 : rng (-128) 127 (zu w ((pl * 6) + i).toNat (z ((pa + 3) + i).toNat)) := rng_zu g34_1 (by omega)
        refine z_iinc F (lv' := [(4, .int (iZ (i + 1))), (0, .ref y), (1, .ref a), (2, .int (iZ pa)), (3, .int (iZ pl))]) 0 dX3_readRow_61 rfl (by decide) rfl ?_
        refine z_goto F 34 dX3_readRow_64 (by decide) ?_
        exact ih (i + 1) (zu w ((pl * 6) + i).toNat (z ((pa + 3) + i).toNat)) (by omega) r13 (fun q j hj hq => by rw [zu_n (by omega)]; exact g34_2 q j hj hq) (fun j hj => by rcases (show (j : Int) < i ∨ (j : Int) = i by omega) with q | q; rw [zu_n (by omega)]; exact g34_3 j q; rw [show 6 * pl.toNat + j = ((pl * 6) + i).toNat by omega, zu_s, ← q]) (by omega)
  exact lp34 ((6 - 0 : Int).toNat + 1) 0 za (by omega) h9 (fun _ _ _ _ => rfl) (fun j hj => absurd hj (by omega)) (Nat.lt_succ_self _)
set_option maxHeartbeats 4000000 in
set_option maxRecDepth 20000 in
theorem k_X3_read (l : Launch) (D : va_G) (K : KI) (y : Nat) (yk : Nat) (yn : Nat) (yc : Nat) (ya : Nat) (yd : Nat) (yl : Nat) (lp : Int) (re : Int) (wp : Int) (lw : Int) (np : Nat) (na : Nat) (zk : Nat → Int) (zn : Nat → Int) (zc : Nat → Int) (za : Nat → Int) (fd : Nat → Int64) (zl : Nat → Int) (a : Nat) (n : Nat) (z : Nat → Int) (fr : Int) (h0 : 1 ≤ np ∧ np ≤ 304 ∧ (na : Int) = 6 * np) (h1 : n < 2147483648 ∧ 0 ≤ fr ∧ fr + 32 * np ≤ n) (h2 : rng (-128) 127 z) (h3 : rng 0 3 zk) (h4 : rng (-128) 127 zn) (h5 : nmOk zk zn) (h6 : rng 0 6 zc) (h7 : rng (-128) 127 za) (h8 : akOk zc za) (h9 : rng (-1) (np-1) zl) : Ct lw_T l yX3_read cX3_read 5 none { frames := 3, cells := 0, slots := 0, locals := 74 } 0 0 D cls5 (TY K) [.ref y, .ref a, .int (iZ fr)] [oX3 y yk yn yc ya yd yl lp re wp lw, aI K yk np zk, aI K yn np zn, aI K yc np zc, aI K ya na za, aL K yd np fd, aI K yl 64 zl, aB K a n z] (fun v wo => ∃ (lp2 : Int), ∃ (re2 : Int), ∃ (wp2 : Int), ∃ (lw2 : Int), ∃ (zk2 : Nat → Int), ∃ (zn2 : Nat → Int), ∃ (zc2 : Nat → Int), ∃ (za2 : Nat → Int), ∃ (fd2 : Nat → Int64), ∃ (zl2 : Nat → Int), v = none ∧ wo = [oX3 y yk yn yc ya yd yl lp2 re2 wp2 lw2, aI K yk np zk2, aI K yn np zn2, aI K yc np zc2, aI K ya na za2, aL K yd np fd2, aI K yl 64 zl2, aB K a n z] ∧ (0 ≤ re2 ∧ re2 ≤ np) ∧ (-1 ≤ lp2 ∧ lp2 ≤ np - 1 ∧ 0 ≤ wp2 ∧ wp2 ≤ re2 ∧ -1 ≤ lw2 ∧ lw2 ≤ np - 1) ∧ (rng 0 3 zk2) ∧ (rng (-128) 127 zn2) ∧ (nmOk zk2 zn2) ∧ (rng 0 6 zc2) ∧ (rng (-128) 127 za2) ∧ (akOk zc2 za2) ∧ (rng (-1) (np-1) zl2)) := by
  refine ct_of (own := RX3) (lv := [(0, .ref y), (1, .ref a), (2, .int (iZ fr))]) (by decide) rfl (Nat.le_of_ble_eq_true rfl) rfl (fun C F hr hnm hzl => ?_)
  subst hzl
  refine z_aload_n F 0 dX3_read_0 rfl ?_
  refine z_iconst F dX3_read_1 ?_
  refine z_put F (ws' := [oX3 y yk yn yc ya yd yl lp 0 wp lw, aI K yk np zk, aI K yn np zn, aI K yc np zc, aI K ya na za, aL K yd np fd, aI K yl 64 zl, aB K a n z]) 0 7 iX3 tyX3 tyX3_ok nmX3 rfl rfl (by decide) t1_70 rfl rfl rfl rfl (Nat.le_of_ble_eq_true rfl) dX3_read_2 rfl ?_
  refine z_iconst F dX3_read_5 ?_
  refine z_istore_n F (lv' := [(3, .int (iZ 0)), (0, .ref y), (1, .ref a), (2, .int (iZ fr))]) dX3_read_6 (by decide) rfl ?_
  have lp7 : ∀ (nn : Nat) (i : Int) (rev : Int) (zkv : Nat → Int) (znv : Nat → Int) (zcv : Nat → Int) (zav : Nat → Int) (fdv : Nat → Int64), (0 ≤ i ∧ i ≤ np) → (0 ≤ rev ∧ rev ≤ i) → (rng 0 3 zkv) → (rng (-128) 127 znv) → (nmOk zkv znv) → (rng 0 6 zcv) → (rng (-128) 127 zav) → (akOk zcv zav) → ((np - i : Int).toNat < nn) → Go C { frames := 3, cells := 0, slots := 0, locals := 74 } D cls5 5 0 0 [oX3 y yk yn yc ya yd yl lp rev wp lw, aI K yk np zkv, aI K yn np znv, aI K yc np zcv, aI K ya na zav, aL K yd np fdv, aI K yl 64 zl, aB K a n z] 7 [(3, .int (iZ i)), (0, .ref y), (1, .ref a), (2, .int (iZ fr))] [] := by
    intro nn
    induction nn with
    | zero => intro i rev zkv znv zcv zav fdv g7_0 g7_1 g7_2 g7_3 g7_4 g7_5 g7_6 g7_7 hmu; exact absurd hmu (Nat.not_lt_zero _)
    | succ nn ih =>
      intro i rev zkv znv zcv zav fdv g7_0 g7_1 g7_2 g7_3 g7_4 g7_5 g7_6 g7_7 hmu
      refine z_iload_n F 0 dX3_read_7 rfl ?_
      refine z_aload_n F 1 dX3_read_8 rfl ?_
      refine z_get F 0 0 iX3 rfl rfl (by decide) t1_63 rfl dX3_read_9 ?_
      refine z_alen F 1 0 rfl rfl dX3_read_12 ?_
      refine z_icmp_ge F 65 dX3_read_13 (by decide) (by omega) (fun c1 => ?_) (fun c1 => ?_)
      · refine z_aload_n F 1 dX3_read_65 rfl ?_
        refine z_callV F lw_good (k_X3_index _ D K y yk yn yc ya yd yl lp rev wp lw np zkv znv zl (by omega) (by omega) h9 g7_4 g7_2) t1_199 t1_4 t1_196 t1_198 (q := (RX3, TX3, 10)) ts_2 ⟨rfl, rfl⟩ ndX3_index ⟨Nat.le_of_ble_eq_true rfl, Nat.le_of_ble_eq_true rfl⟩ 0 rfl rfl (rest := []) rfl (Nat.le_of_ble_eq_true rfl) dX3_read_66 ⟨(show 0 + 0 ≤ 0 by omega), (show 0 + 0 ≤ 0 by omega)⟩ (wr := [aI K yc np zcv, aI K ya na zav, aL K yd np fdv, aB K a n z]) ([0, 1, 2, 6] : List Nat) ([3, 4, 5, 7] : List Nat) rfl rfl rfl rfl (by decide) (fun v wo hp => ?_)
        obtain ⟨lp2_2, wp2_3, lw2_4, zl2_5, rfl, rfl, f6, f7⟩ := hp
        refine z_re F (ws' := [oX3 y yk yn yc ya yd yl lp2_2 rev wp2_3 lw2_4, aI K yk np zkv, aI K yn np znv, aI K yc np zcv, aI K ya na zav, aL K yd np fdv, aI K yl 64 zl2_5, aB K a n z]) (st' := []) ([4, 5, 6, 0, 1, 2, 7, 3] : List Nat) rfl rfl rfl ?_
        exact z_vret F hr dX3_read_69 (by omega) ⟨lp2_2, rev, wp2_3, lw2_4, zkv, znv, zcv, zav, fdv, zl2_5, rfl, rfl, (by omega), f6, g7_2, g7_3, g7_4, g7_5, g7_6, g7_7, f7⟩
      · refine z_iload_n F 3 dX3_read_16 rfl ?_
        refine z_iload_n F 0 dX3_read_17 rfl ?_
        refine z_bipush F dX3_read_18 (by decide) ?_
        refine z_imul F dX3_read_20 ?_
        refine z_iadd F dX3_read_21 ?_
        refine z_istore F (lv' := [(4, .int (iZ (fr + (i * 32)))), (3, .int (iZ i)), (0, .ref y), (1, .ref a), (2, .int (iZ fr))]) dX3_read_22 (by decide) rfl ?_
        refine z_aload_n F 3 dX3_read_24 rfl ?_
        refine z_iload F 0 dX3_read_25 rfl ?_
        refine z_iload_n F 1 dX3_read_27 rfl ?_
        refine z_callS F lw_good (k_X3_isRow _ D K a n z (fr + (i * 32)) i (by omega) h2) t2_0 t1_4 t1_238 t1_239 ⟨rfl, rfl⟩ ndX3_isRow ⟨Nat.le_of_ble_eq_true rfl, Nat.le_of_ble_eq_true rfl⟩ (rest := []) rfl (Nat.le_of_ble_eq_true rfl) dX3_read_28 ⟨(show 0 + 0 ≤ 0 by omega), (show 0 + 0 ≤ 0 by omega)⟩ (wr := [oX3 y yk yn yc ya yd yl lp rev wp lw, aI K yk np zkv, aI K yn np znv, aI K yc np zcv, aI K ya na zav, aL K yd np fdv, aI K yl 64 zl]) ([7] : List Nat) ([0, 1, 2, 3, 4, 5, 6] : List Nat) rfl rfl rfl rfl (by decide) (fun v wo hp => ?_)
        obtain ⟨r_8, rfl, rfl, f9, f10⟩ := hp
        refine z_re F (ws' := [oX3 y yk yn yc ya yd yl lp rev wp lw, aI K yk np zkv, aI K yn np znv, aI K yc np zcv, aI K ya na zav, aL K yd np fdv, aI K yl 64 zl, aB K a n z]) (st' := [.int (iZ r_8)]) ([0, 1, 2, 3, 4, 5, 6, 7] : List Nat) rfl rfl rfl ?_
        refine z_if_eq F 52 dX3_read_31 (by decide) (by omega) (fun c11 => ?_) (fun c11 => ?_)
        · refine z_aload_n F 2 dX3_read_52 rfl ?_
          refine z_get F 0 0 iX3 rfl rfl (by decide) t1_63 rfl dX3_read_53 ?_
          refine z_iload_n F 1 dX3_read_56 rfl ?_
          refine z_iconst F dX3_read_57 ?_
          refine z_iast F (ws' := [oX3 y yk yn yc ya yd yl lp rev wp lw, aI K yk np (zu zkv i.toNat 0), aI K yn np znv, aI K yc np zcv, aI K ya na zav, aL K yd np fdv, aI K yl 64 zl, aB K a n z]) 1 rfl rfl dX3_read_58 (by omega) (by omega) rfl ?_
          have r12 : rng 0 3 (zu zkv i.toNat 0) := rng_zu g7_2 (by omega)
          refine z_iinc F (lv' := [(3, .int (iZ (i + 1))), (4, .int (iZ (fr + (i * 32)))), (0, .ref y), (1, .ref a), (2, .int (iZ fr))]) 1 dX3_read_59 rfl (by decide) rfl ?_
          refine z_goto F 7 dX3_read_62 (by decide) ?_
          refine z_lv F (lv' := [(3, .int (iZ (i + 1))), (0, .ref y), (1, .ref a), (2, .int (iZ fr))]) [0, 2, 3, 4] rfl ?_
          exact ih (i + 1) rev (zu zkv i.toNat 0) znv zcv zav fdv (by omega) (by omega) r12 g7_3 (by first | assumption | exact nmOk_zu2 (by assumption) (by omega) | exact nmOk_0 (by assumption) | exact nmOk_z) g7_5 g7_6 g7_7 (by omega)
        · have hro := f10 (by omega)
          refine z_aload_n F 2 dX3_read_34 rfl ?_
          refine z_aload_n F 3 dX3_read_35 rfl ?_
          refine z_iload F 0 dX3_read_36 rfl ?_
          refine z_iload_n F 1 dX3_read_38 rfl ?_
          refine z_callV F lw_good (k_X3_readRow _ D K y yk yn yc ya yd yl lp rev wp lw np na zkv znv zcv zav fdv a n z (fr + (i * 32)) i h0 (by omega) (by omega) (by assumption) h2 g7_2 g7_3 g7_4 g7_5 g7_6 g7_7) t2_14 t1_4 t2_11 t2_13 (q := (RX3, TX3, 10)) ts_8 ⟨rfl, rfl⟩ ndX3_readRow ⟨Nat.le_of_ble_eq_true rfl, Nat.le_of_ble_eq_true rfl⟩ 0 rfl rfl (rest := []) rfl (Nat.le_of_ble_eq_true rfl) dX3_read_39 ⟨(show 0 + 0 ≤ 0 by omega), (show 0 + 0 ≤ 0 by omega)⟩ (wr := [aI K yl 64 zl]) ([0, 1, 2, 3, 4, 5, 7] : List Nat) ([6] : List Nat) rfl rfl rfl rfl (by decide) (fun v wo hp => ?_)
          obtain ⟨zk2_13, zn2_14, zc2_15, za2_16, fd2_17, rfl, rfl, f18, f19, f20, f21, f22, f23⟩ := hp
          refine z_re F (ws' := [oX3 y yk yn yc ya yd yl lp rev wp lw, aI K yk np zk2_13, aI K yn np zn2_14, aI K yc np zc2_15, aI K ya na za2_16, aL K yd np fd2_17, aI K yl 64 zl, aB K a n z]) (st' := []) ([1, 2, 3, 4, 5, 6, 0, 7] : List Nat) rfl rfl rfl ?_
          refine z_aload_n F 2 dX3_read_42 rfl ?_
          refine z_iload_n F 1 dX3_read_43 rfl ?_
          refine z_iconst F dX3_read_44 ?_
          refine z_iadd F dX3_read_45 ?_
          refine z_put F (ws' := [oX3 y yk yn yc ya yd yl lp (i + 1) wp lw, aI K yk np zk2_13, aI K yn np zn2_14, aI K yc np zc2_15, aI K ya na za2_16, aL K yd np fd2_17, aI K yl 64 zl, aB K a n z]) 0 7 iX3 tyX3 tyX3_ok nmX3 rfl rfl (by decide) t1_70 rfl rfl rfl rfl (Nat.le_of_ble_eq_true rfl) dX3_read_46 rfl ?_
          refine z_goto F 59 dX3_read_49 (by decide) ?_
          refine z_iinc F (lv' := [(3, .int (iZ (i + 1))), (4, .int (iZ (fr + (i * 32)))), (0, .ref y), (1, .ref a), (2, .int (iZ fr))]) 1 dX3_read_59 rfl (by decide) rfl ?_
          refine z_goto F 7 dX3_read_62 (by decide) ?_
          refine z_lv F (lv' := [(3, .int (iZ (i + 1))), (0, .ref y), (1, .ref a), (2, .int (iZ fr))]) [0, 2, 3, 4] rfl ?_
          exact ih (i + 1) (i + 1) zk2_13 zn2_14 zc2_15 za2_16 fd2_17 (by omega) (by omega) f18 f19 f20 f21 f22 f23 (by omega)
  exact lp7 ((np - 0 : Int).toNat + 1) 0 0 zk zn zc za fd (by omega) (by omega) h3 h4 h5 h6 h7 h8 (Nat.lt_succ_self _)
set_option maxHeartbeats 4000000 in
set_option maxRecDepth 20000 in
theorem k_X3_append (l : Launch) (D : va_G) (K : KI) (y : Nat) (yk : Nat) (yn : Nat) (yc : Nat) (ya : Nat) (yd : Nat) (yl : Nat) (lp : Int) (re : Int) (wp : Int) (lw : Int) (np : Nat) (na : Nat) (zk : Nat → Int) (zn : Nat → Int) (zc : Nat → Int) (za : Nat → Int) (fd : Nat → Int64) (zl : Nat → Int) (kd : Int) (nm : Int) (dg : Int64) (h0 : 1 ≤ np ∧ np ≤ 304 ∧ (na : Int) = 6 * np) (h1 : 0 ≤ re ∧ re ≤ np - 1) (h2 : -1 ≤ lp ∧ lp ≤ np - 1 ∧ 0 ≤ wp ∧ wp ≤ re ∧ -1 ≤ lw ∧ lw ≤ np - 1) (h3 : rng 0 3 zk) (h4 : rng (-128) 127 zn) (h5 : nmOk zk zn) (h6 : rng 0 6 zc) (h7 : rng (-128) 127 za) (h8 : akOk zc za) (h9 : rng (-1) (np-1) zl) (h10 : 1 ≤ kd ∧ kd ≤ 3 ∧ 0 ≤ nm ∧ nm ≤ 63) : Ct lw_T l yX3_append cX3_append 6 (some .int) { frames := 1, cells := 0, slots := 0, locals := 21 } 0 0 D cls5 (TY K) [.ref y, .int (iZ kd), .int (iZ nm), .long dg] [oX3 y yk yn yc ya yd yl lp re wp lw, aI K yk np zk, aI K yn np zn, aI K yc np zc, aI K ya na za, aL K yd np fd, aI K yl 64 zl] (fun v wo => ∃ (lp2 : Int), ∃ (wp2 : Int), ∃ (lw2 : Int), ∃ (zk2 : Nat → Int), ∃ (zn2 : Nat → Int), ∃ (zc2 : Nat → Int), ∃ (fd2 : Nat → Int64), ∃ (zl2 : Nat → Int), v = some (.int (iZ re)) ∧ wo = [oX3 y yk yn yc ya yd yl lp2 (re + 1) wp2 lw2, aI K yk np zk2, aI K yn np zn2, aI K yc np zc2, aI K ya na za, aL K yd np fd2, aI K yl 64 zl2] ∧ (-1 ≤ lp2 ∧ lp2 ≤ np - 1 ∧ 0 ≤ wp2 ∧ wp2 ≤ re + 1 ∧ -1 ≤ lw2 ∧ lw2 ≤ np - 1) ∧ (rng 0 3 zk2) ∧ (rng (-128) 127 zn2) ∧ (nmOk zk2 zn2) ∧ (rng 0 6 zc2) ∧ (akOk zc2 za) ∧ (rng (-1) (np-1) zl2)) := by
  refine ct_of (own := RX3) (lv := [(0, .ref y), (1, .int (iZ kd)), (2, .int (iZ nm)), (3, .long dg)]) (by decide) rfl (Nat.le_of_ble_eq_true rfl) rfl (fun C F hr hnm hzl => ?_)
  subst hzl
  refine z_aload_n F 0 dX3_append_0 rfl ?_
  refine z_get F 0 7 iX3 rfl rfl (by decide) t1_70 rfl dX3_append_1 ?_
  refine z_istore F (lv' := [(5, .int (iZ re)), (0, .ref y), (1, .int (iZ kd)), (2, .int (iZ nm)), (3, .long dg)]) dX3_append_4 (by decide) rfl ?_
  refine z_aload_n F 1 dX3_append_6 rfl ?_
  refine z_get F 0 0 iX3 rfl rfl (by decide) t1_63 rfl dX3_append_7 ?_
  refine z_iload F 0 dX3_append_10 rfl ?_
  refine z_iload_n F 2 dX3_append_12 rfl ?_
  refine z_iast F (ws' := [oX3 y yk yn yc ya yd yl lp re wp lw, aI K yk np (zu zk re.toNat kd), aI K yn np zn, aI K yc np zc, aI K ya na za, aL K yd np fd, aI K yl 64 zl]) 1 rfl rfl dX3_append_13 (by omega) (by omega) rfl ?_
  have r1 : rng 0 3 (zu zk re.toNat kd) := rng_zu h3 (by omega)
  refine z_aload_n F 1 dX3_append_14 rfl ?_
  refine z_get F 0 1 iX3 rfl rfl (by decide) t1_64 rfl dX3_append_15 ?_
  refine z_iload F 0 dX3_append_18 rfl ?_
  refine z_iload_n F 3 dX3_append_20 rfl ?_
  refine z_iast F (ws' := [oX3 y yk yn yc ya yd yl lp re wp lw, aI K yk np (zu zk re.toNat kd), aI K yn np (zu zn re.toNat nm), aI K yc np zc, aI K ya na za, aL K yd np fd, aI K yl 64 zl]) 2 rfl rfl dX3_append_21 (by omega) (by omega) rfl ?_
  have r2 : rng (-128) 127 (zu zn re.toNat nm) := rng_zu h4 (by omega)
  refine z_aload_n F 1 dX3_append_22 rfl ?_
  refine z_get F 0 2 iX3 rfl rfl (by decide) t1_65 rfl dX3_append_23 ?_
  refine z_iload F 0 dX3_append_26 rfl ?_
  refine z_iconst F dX3_append_28 ?_
  refine z_iast F (ws' := [oX3 y yk yn yc ya yd yl lp re wp lw, aI K yk np (zu zk re.toNat kd), aI K yn np (zu zn re.toNat nm), aI K yc np (zu zc re.toNat 0), aI K ya na za, aL K yd np fd, aI K yl 64 zl]) 3 rfl rfl dX3_append_29 (by omega) (by omega) rfl ?_
  have r3 : rng 0 6 (zu zc re.toNat 0) := rng_zu h6 (by omega)
  refine z_aload_n F 1 dX3_append_30 rfl ?_
  refine z_get F 0 4 iX3 rfl rfl (by decide) t1_67 rfl dX3_append_31 ?_
  refine z_iload F 0 dX3_append_34 rfl ?_
  refine z_lload_n F 4 dX3_append_36 rfl ?_
  refine z_last F (ws' := [oX3 y yk yn yc ya yd yl lp re wp lw, aI K yk np (zu zk re.toNat kd), aI K yn np (zu zn re.toNat nm), aI K yc np (zu zc re.toNat 0), aI K ya na za, aL K yd np (vp_updL fd re.toNat dg), aI K yl 64 zl]) 5 rfl rfl dX3_append_37 (by omega) (by omega) rfl ?_
  refine z_aload_n F 1 dX3_append_38 rfl ?_
  refine z_dup F dX3_append_39 rfl ?_
  refine z_get F 0 7 iX3 rfl rfl (by decide) t1_70 rfl dX3_append_40 ?_
  refine z_iconst F dX3_append_43 ?_
  refine z_iadd F dX3_append_44 ?_
  refine z_put F (ws' := [oX3 y yk yn yc ya yd yl lp (re + 1) wp lw, aI K yk np (zu zk re.toNat kd), aI K yn np (zu zn re.toNat nm), aI K yc np (zu zc re.toNat 0), aI K ya na za, aL K yd np (vp_updL fd re.toNat dg), aI K yl 64 zl]) 0 7 iX3 tyX3 tyX3_ok nmX3 rfl rfl (by decide) t1_70 rfl rfl rfl rfl (Nat.le_of_ble_eq_true rfl) dX3_append_45 rfl ?_
  refine z_aload_n F 1 dX3_append_48 rfl ?_
  refine z_iload F 0 dX3_append_49 rfl ?_
  refine z_callV F lw_good (k_X3_indexPlace _ D K y yk yn yc ya yd yl lp (re + 1) wp lw np (zu zk re.toNat kd) (zu zn re.toNat nm) zl re (by omega) (by omega) h9 (by first | assumption | exact nmOk_zu2 (by assumption) (by omega) | exact nmOk_0 (by assumption) | exact nmOk_z) h1 h2 r1) t1_203 t1_4 t1_200 t1_202 (q := (RX3, TX3, 10)) ts_3 ⟨rfl, rfl⟩ ndX3_indexPlace ⟨Nat.le_of_ble_eq_true rfl, Nat.le_of_ble_eq_true rfl⟩ 0 rfl rfl (rest := []) rfl (Nat.le_of_ble_eq_true rfl) dX3_append_51 ⟨(show 0 + 0 ≤ 0 by omega), (show 0 + 0 ≤ 0 by omega)⟩ (wr := [aI K yc np (zu zc re.toNat 0), aI K ya na za, aL K yd np (vp_updL fd re.toNat dg)]) ([0, 1, 2, 6] : List Nat) ([3, 4, 5] : List Nat) rfl rfl rfl rfl (by decide) (fun v wo hp => ?_)
  obtain ⟨lp2_4, wp2_5, lw2_6, zl2_7, rfl, rfl, f8, f9⟩ := hp
  refine z_re F (ws' := [oX3 y yk yn yc ya yd yl lp2_4 (re + 1) wp2_5 lw2_6, aI K yk np (zu zk re.toNat kd), aI K yn np (zu zn re.toNat nm), aI K yc np (zu zc re.toNat 0), aI K ya na za, aL K yd np (vp_updL fd re.toNat dg), aI K yl 64 zl2_7]) (st' := []) ([3, 4, 5, 0, 1, 2, 6] : List Nat) rfl rfl rfl ?_
  refine z_iload F 0 dX3_append_54 rfl ?_
  exact z_iret F hr dX3_append_56 (by omega) ⟨lp2_4, wp2_5, lw2_6, (zu zk re.toNat kd), (zu zn re.toNat nm), (zu zc re.toNat 0), (vp_updL fd re.toNat dg), zl2_7, rfl, rfl, f8, r1, r2, (by first | assumption | exact nmOk_zu2 (by assumption) (by omega) | exact nmOk_0 (by assumption) | exact nmOk_z), r3, (by first | assumption | exact akOk_c0 (by assumption) | exact akOk_z), f9⟩
set_option maxHeartbeats 4000000 in
set_option maxRecDepth 20000 in
theorem k_X3_addAsk (l : Launch) (D : va_G) (K : KI) (y : Nat) (yk : Nat) (yn : Nat) (yc : Nat) (ya : Nat) (yd : Nat) (yl : Nat) (lp : Int) (re : Int) (wp : Int) (lw : Int) (np : Nat) (na : Nat) (zc : Nat → Int) (za : Nat → Int) (pl : Int) (k : Int) (h0 : 1 ≤ np ∧ np ≤ 304 ∧ (na : Int) = 6 * np) (h1 : 0 ≤ pl ∧ pl ≤ np - 1) (h2 : 0 ≤ k ∧ k ≤ 63) (h3 : zc pl.toNat ≤ 5) (h4 : rng 0 6 zc) (h5 : rng (-128) 127 za) (h6 : akOk zc za) : Ct lw_T l yX3_addAsk cX3_addAsk 3 none { frames := 0, cells := 0, slots := 0, locals := 0 } 0 0 D cls5 (TY K) [.ref y, .int (iZ pl), .int (iZ k)] [oX3 y yk yn yc ya yd yl lp re wp lw, aI K yc np zc, aI K ya na za] (fun v wo => ∃ (zc2 : Nat → Int), ∃ (za2 : Nat → Int), v = none ∧ wo = [oX3 y yk yn yc ya yd yl lp re wp lw, aI K yc np zc2, aI K ya na za2] ∧ (rng 0 6 zc2) ∧ (rng (-128) 127 za2) ∧ (akOk zc2 za2)) := by
  refine ct_of (own := RX3) (lv := [(0, .ref y), (1, .int (iZ pl)), (2, .int (iZ k))]) (by decide) rfl (Nat.le_of_ble_eq_true rfl) rfl (fun C F hr hnm hzl => ?_)
  subst hzl
  refine z_aload_n F 0 dX3_addAsk_0 rfl ?_
  refine z_get F 0 3 iX3 rfl rfl (by decide) t1_66 rfl dX3_addAsk_1 ?_
  refine z_iload_n F 1 dX3_addAsk_4 rfl ?_
  refine z_bipush F dX3_addAsk_5 (by decide) ?_
  refine z_imul F dX3_addAsk_7 ?_
  refine z_aload_n F 0 dX3_addAsk_8 rfl ?_
  refine z_get F 0 2 iX3 rfl rfl (by decide) t1_65 rfl dX3_addAsk_9 ?_
  refine z_iload_n F 1 dX3_addAsk_12 rfl ?_
  refine z_iald F 1 rfl rfl dX3_addAsk_13 (by omega) (by omega) ?_
  have r1 : 0 ≤ zc pl.toNat ∧ zc pl.toNat ≤ 6 := h4 _
  refine z_iadd F dX3_addAsk_14 ?_
  refine z_iload_n F 2 dX3_addAsk_15 rfl ?_
  refine z_iast F (ws' := [oX3 y yk yn yc ya yd yl lp re wp lw, aI K yc np zc, aI K ya na (zu za ((pl * 6) + (zc pl.toNat)).toNat k)]) 2 rfl rfl dX3_addAsk_16 (by omega) (by omega) rfl ?_
  have r2 : rng (-128) 127 (zu za ((pl * 6) + (zc pl.toNat)).toNat k) := rng_zu h5 (by omega)
  refine z_aload_n F 0 dX3_addAsk_17 rfl ?_
  refine z_get F 0 2 iX3 rfl rfl (by decide) t1_65 rfl dX3_addAsk_18 ?_
  refine z_iload_n F 1 dX3_addAsk_21 rfl ?_
  refine z_dup2 F dX3_addAsk_22 rfl rfl ?_
  refine z_iald F 1 rfl rfl dX3_addAsk_23 (by omega) (by omega) ?_
  have r3 : 0 ≤ zc pl.toNat ∧ zc pl.toNat ≤ 6 := h4 _
  refine z_iconst F dX3_addAsk_24 ?_
  refine z_iadd F dX3_addAsk_25 ?_
  refine z_iast F (ws' := [oX3 y yk yn yc ya yd yl lp re wp lw, aI K yc np (zu zc pl.toNat ((zc pl.toNat) + 1)), aI K ya na (zu za ((pl * 6) + (zc pl.toNat)).toNat k)]) 1 rfl rfl dX3_addAsk_26 (by omega) (by omega) rfl ?_
  have r4 : rng 0 6 (zu zc pl.toNat ((zc pl.toNat) + 1)) := rng_zu h4 (by omega)
  exact z_vret F hr dX3_addAsk_27 (by omega) ⟨(zu zc pl.toNat ((zc pl.toNat) + 1)), (zu za ((pl * 6) + (zc pl.toNat)).toNat k), rfl, rfl, r4, r2, (akOk_add h6 h4 (by omega) (by omega) (by omega))⟩
set_option maxHeartbeats 4000000 in
set_option maxRecDepth 20000 in
theorem k_X3_move (l : Launch) (D : va_G) (K : KI) (y : Nat) (yk : Nat) (yn : Nat) (yc : Nat) (ya : Nat) (yd : Nat) (yl : Nat) (lp : Int) (re : Int) (wp : Int) (lw : Int) (np : Nat) (na : Nat) (zk : Nat → Int) (zn : Nat → Int) (zc : Nat → Int) (za : Nat → Int) (fd : Nat → Int64) (fr : Int) (to : Int) (h0 : 1 ≤ np ∧ np ≤ 304 ∧ (na : Int) = 6 * np) (h1 : 0 ≤ fr ∧ fr ≤ np - 1 ∧ 0 ≤ to ∧ to ≤ np - 1) (h2 : rng 0 3 zk) (h3 : rng (-128) 127 zn) (h4 : nmOk zk zn) (h5 : rng 0 6 zc) (h6 : rng (-128) 127 za) (h7 : akOk zc za) : Ct lw_T l yX3_move cX3_move 4 none { frames := 0, cells := 0, slots := 0, locals := 0 } 0 0 D cls5 (TY K) [.ref y, .int (iZ fr), .int (iZ to)] [oX3 y yk yn yc ya yd yl lp re wp lw, aI K yk np zk, aI K yn np zn, aI K yc np zc, aI K ya na za, aL K yd np fd] (fun v wo => ∃ (zk2 : Nat → Int), ∃ (zn2 : Nat → Int), ∃ (zc2 : Nat → Int), ∃ (za2 : Nat → Int), ∃ (fd2 : Nat → Int64), v = none ∧ wo = [oX3 y yk yn yc ya yd yl lp re wp lw, aI K yk np zk2, aI K yn np zn2, aI K yc np zc2, aI K ya na za2, aL K yd np fd2] ∧ (rng 0 3 zk2) ∧ (rng (-128) 127 zn2) ∧ (nmOk zk2 zn2) ∧ (rng 0 6 zc2) ∧ (rng (-128) 127 za2) ∧ (akOk zc2 za2)) := by
  refine ct_of (own := RX3) (lv := [(0, .ref y), (1, .int (iZ fr)), (2, .int (iZ to))]) (by decide) rfl (Nat.le_of_ble_eq_true rfl) rfl (fun C F hr hnm hzl => ?_)
  subst hzl
  have hnq := h4 fr.toNat
  refine z_aload_n F 0 dX3_move_0 rfl ?_
  refine z_get F 0 0 iX3 rfl rfl (by decide) t1_63 rfl dX3_move_1 ?_
  refine z_iload_n F 2 dX3_move_4 rfl ?_
  refine z_aload_n F 0 dX3_move_5 rfl ?_
  refine z_get F 0 0 iX3 rfl rfl (by decide) t1_63 rfl dX3_move_6 ?_
  refine z_iload_n F 1 dX3_move_9 rfl ?_
  refine z_iald F 1 rfl rfl dX3_move_10 (by omega) (by omega) ?_
  have r1 : 0 ≤ zk fr.toNat ∧ zk fr.toNat ≤ 3 := h2 _
  refine z_iast F (ws' := [oX3 y yk yn yc ya yd yl lp re wp lw, aI K yk np (zu zk to.toNat (zk fr.toNat)), aI K yn np zn, aI K yc np zc, aI K ya na za, aL K yd np fd]) 1 rfl rfl dX3_move_11 (by omega) (by omega) rfl ?_
  have r2 : rng 0 3 (zu zk to.toNat (zk fr.toNat)) := rng_zu h2 (by omega)
  refine z_aload_n F 0 dX3_move_12 rfl ?_
  refine z_get F 0 1 iX3 rfl rfl (by decide) t1_64 rfl dX3_move_13 ?_
  refine z_iload_n F 2 dX3_move_16 rfl ?_
  refine z_aload_n F 0 dX3_move_17 rfl ?_
  refine z_get F 0 1 iX3 rfl rfl (by decide) t1_64 rfl dX3_move_18 ?_
  refine z_iload_n F 1 dX3_move_21 rfl ?_
  refine z_iald F 2 rfl rfl dX3_move_22 (by omega) (by omega) ?_
  have r3 : (-128) ≤ zn fr.toNat ∧ zn fr.toNat ≤ 127 := h3 _
  refine z_iast F (ws' := [oX3 y yk yn yc ya yd yl lp re wp lw, aI K yk np (zu zk to.toNat (zk fr.toNat)), aI K yn np (zu zn to.toNat (zn fr.toNat)), aI K yc np zc, aI K ya na za, aL K yd np fd]) 2 rfl rfl dX3_move_23 (by omega) (by omega) rfl ?_
  have r4 : rng (-128) 127 (zu zn to.toNat (zn fr.toNat)) := rng_zu h3 (by omega)
  refine z_aload_n F 0 dX3_move_24 rfl ?_
  refine z_get F 0 2 iX3 rfl rfl (by decide) t1_65 rfl dX3_move_25 ?_
  refine z_iload_n F 2 dX3_move_28 rfl ?_
  refine z_aload_n F 0 dX3_move_29 rfl ?_
  refine z_get F 0 2 iX3 rfl rfl (by decide) t1_65 rfl dX3_move_30 ?_
  refine z_iload_n F 1 dX3_move_33 rfl ?_
  refine z_iald F 3 rfl rfl dX3_move_34 (by omega) (by omega) ?_
  have r5 : 0 ≤ zc fr.toNat ∧ zc fr.toNat ≤ 6 := h5 _
  refine z_iast F (ws' := [oX3 y yk yn yc ya yd yl lp re wp lw, aI K yk np (zu zk to.toNat (zk fr.toNat)), aI K yn np (zu zn to.toNat (zn fr.toNat)), aI K yc np (zu zc to.toNat (zc fr.toNat)), aI K ya na za, aL K yd np fd]) 3 rfl rfl dX3_move_35 (by omega) (by omega) rfl ?_
  have r6 : rng 0 6 (zu zc to.toNat (zc fr.toNat)) := rng_zu h5 (by omega)
  refine z_iconst F dX3_move_36 ?_
  refine z_istore_n F (lv' := [(3, .int (iZ 0)), (0, .ref y), (1, .int (iZ fr)), (2, .int (iZ to))]) dX3_move_37 (by decide) rfl ?_
  have lp38 : ∀ (nn : Nat) (i : Int) (w : Nat → Int), (0 ≤ i ∧ i ≤ 6) → (rng (-128) 127 w) → (∀ q j : Nat, j < 6 → ¬ (q : Int) = to → w (6 * q + j) = za (6 * q + j)) → (∀ j : Nat, (j : Int) < i → w (6 * to.toNat + j) = za (6 * fr.toNat + j)) → (∀ j : Nat, i ≤ (j : Int) → j < 6 → w (6 * to.toNat + j) = za (6 * to.toNat + j)) → ((6 - i : Int).toNat < nn) → Go C { frames := 0, cells := 0, slots := 0, locals := 0 } D cls5 4 0 0 [oX3 y yk yn yc ya yd yl lp re wp lw, aI K yk np (zu zk to.toNat (zk fr.toNat)), aI K yn np (zu zn to.toNat (zn fr.toNat)), aI K yc np (zu zc to.toNat (zc fr.toNat)), aI K ya na w, aL K yd np fd] 38 [(3, .int (iZ i)), (0, .ref y), (1, .int (iZ fr)), (2, .int (iZ to))] [] := by
    intro nn
    induction nn with
    | zero => intro i w g38_0 g38_1 g38_2 g38_3 g38_4 hmu; exact absurd hmu (Nat.not_lt_zero _)
    | succ nn ih =>
      intro i w g38_0 g38_1 g38_2 g38_3 g38_4 hmu
      refine z_iload_n F 0 dX3_move_38 rfl ?_
      refine z_bipush F dX3_move_39 (by decide) ?_
      refine z_icmp_ge F 72 dX3_move_41 (by decide) (by omega) (fun c7 => ?_) (fun c7 => ?_)
      · refine z_aload_n F 1 dX3_move_72 rfl ?_
        refine z_get F 0 4 iX3 rfl rfl (by decide) t1_67 rfl dX3_move_73 ?_
        refine z_iload_n F 3 dX3_move_76 rfl ?_
        refine z_aload_n F 1 dX3_move_77 rfl ?_
        refine z_get F 0 4 iX3 rfl rfl (by decide) t1_67 rfl dX3_move_78 ?_
        refine z_iload_n F 2 dX3_move_81 rfl ?_
        refine z_lald F 5 rfl rfl dX3_move_82 (by omega) (by omega) ?_
        refine z_last F (ws' := [oX3 y yk yn yc ya yd yl lp re wp lw, aI K yk np (zu zk to.toNat (zk fr.toNat)), aI K yn np (zu zn to.toNat (zn fr.toNat)), aI K yc np (zu zc to.toNat (zc fr.toNat)), aI K ya na w, aL K yd np (vp_updL fd to.toNat (fd fr.toNat))]) 5 rfl rfl dX3_move_83 (by omega) (by omega) rfl ?_
        exact z_vret F hr dX3_move_84 (by omega) ⟨(zu zk to.toNat (zk fr.toNat)), (zu zn to.toNat (zn fr.toNat)), (zu zc to.toNat (zc fr.toNat)), w, (vp_updL fd to.toNat (fd fr.toNat)), rfl, rfl, r2, r4, (by first | assumption | exact nmOk_zu2 (by assumption) (by omega) | exact nmOk_0 (by assumption) | exact nmOk_z), r6, g38_1, (akOk_mv (by omega) (by omega) h7 h5 g38_2 (fun j hj => g38_3 j (by omega)))⟩
      · refine z_aload_n F 1 dX3_move_44 rfl ?_
        refine z_get F 0 3 iX3 rfl rfl (by decide) t1_66 rfl dX3_move_45 ?_
        refine z_iload_n F 3 dX3_move_48 rfl ?_
        refine z_bipush F dX3_move_49 (by decide) ?_
        refine z_imul F dX3_move_51 ?_
        refine z_iload_n F 0 dX3_move_52 rfl ?_
        refine z_iadd F dX3_move_53 ?_
        refine z_aload_n F 1 dX3_move_54 rfl ?_
        refine z_get F 0 3 iX3 rfl rfl (by decide) t1_66 rfl dX3_move_55 ?_
        refine z_iload_n F 2 dX3_move_58 rfl ?_
        refine z_bipush F dX3_move_59 (by decide) ?_
        refine z_imul F dX3_move_61 ?_
        refine z_iload_n F 0 dX3_move_62 rfl ?_
        refine z_iadd F dX3_move_63 ?_
        refine z_iald F 4 rfl rfl dX3_move_64 (by omega) (by omega) ?_
        have r8 : (-128) ≤ w ((fr * 6) + i).toNat ∧ w ((fr * 6) + i).toNat ≤ 127 := g38_1 _
        refine z_iast F (ws' := [oX3 y yk yn yc ya yd yl lp re wp lw, aI K yk np (zu zk to.toNat (zk fr.toNat)), aI K yn np (zu zn to.toNat (zn fr.toNat)), aI K yc np (zu zc to.toNat (zc fr.toNat)), aI K ya na (zu w ((to * 6) + i).toNat (w ((fr * 6) + i).toNat)), aL K yd np fd]) 4 rfl rfl dX3_move_65 (by omega) (by omega) rfl ?_
        have r9 : rng (-128) 127 (zu w ((to * 6) + i).toNat (w ((fr * 6) + i).toNat)) := rng_zu g38_1 (by omega)
        refine z_iinc F (lv' := [(3, .int (iZ (i + 1))), (0, .ref y), (1, .int (iZ fr)), (2, .int (iZ to))]) 0 dX3_move_66 rfl (by decide) rfl ?_
        refine z_goto F 38 dX3_move_69 (by decide) ?_
        exact ih (i + 1) (zu w ((to * 6) + i).toNat (w ((fr * 6) + i).toNat)) (by omega) r9 (fun q j hj hq => by rw [zu_n (by omega)]; exact g38_2 q j hj hq) (fun j hj => by rcases (show (j : Int) < i ∨ (j : Int) = i by omega) with q | q; rw [zu_n (by omega)]; exact g38_3 j q; rw [show 6 * to.toNat + j = ((to * 6) + i).toNat by omega, zu_s, show ((fr * 6) + i).toNat = 6 * fr.toNat + j by omega]; by_cases e : (fr : Int) = to; rw [e]; exact g38_4 j (by omega) (by omega); exact g38_2 fr.toNat j (by omega) (by omega)) (fun j h1 h2 => by rw [zu_n (by omega)]; exact g38_4 j (by omega) h2) (by omega)
  exact lp38 ((6 - 0 : Int).toNat + 1) 0 za (by omega) h6 (fun _ _ _ _ => rfl) (fun j hj => absurd hj (by omega)) (fun _ _ _ => rfl) (Nat.lt_succ_self _)
set_option maxHeartbeats 4000000 in
set_option maxRecDepth 20000 in
theorem k_X3_keepOnly (l : Launch) (D : va_G) (K : KI) (y : Nat) (yk : Nat) (yn : Nat) (yc : Nat) (ya : Nat) (yd : Nat) (yl : Nat) (lp : Int) (re : Int) (wp : Int) (lw : Int) (np : Nat) (na : Nat) (zk : Nat → Int) (zn : Nat → Int) (zc : Nat → Int) (za : Nat → Int) (fd : Nat → Int64) (zl : Nat → Int) (xc : Nat) (zx : Nat → Int) (cnt : Int) (h0 : 1 ≤ np ∧ np ≤ 304 ∧ (na : Int) = 6 * np) (h1 : 0 ≤ cnt ∧ cnt ≤ np) (h2 : rng 0 (np-1) zx) (h3 : rng 0 3 zk) (h4 : rng (-128) 127 zn) (h5 : nmOk zk zn) (h6 : rng 0 6 zc) (h7 : rng (-128) 127 za) (h8 : akOk zc za) (h9 : rng (-1) (np-1) zl) : Ct lw_T l yX3_keepOnly cX3_keepOnly 4 none { frames := 2, cells := 0, slots := 0, locals := 42 } 0 0 D cls5 (TY K) [.ref y, .ref xc, .int (iZ cnt)] [oX3 y yk yn yc ya yd yl lp re wp lw, aI K yk np zk, aI K yn np zn, aI K yc np zc, aI K ya na za, aL K yd np fd, aI K yl 64 zl, aI K xc np zx] (fun v wo => ∃ (lp2 : Int), ∃ (wp2 : Int), ∃ (lw2 : Int), ∃ (zk2 : Nat → Int), ∃ (zn2 : Nat → Int), ∃ (zc2 : Nat → Int), ∃ (za2 : Nat → Int), ∃ (fd2 : Nat → Int64), ∃ (zl2 : Nat → Int), v = none ∧ wo = [oX3 y yk yn yc ya yd yl lp2 cnt wp2 lw2, aI K yk np zk2, aI K yn np zn2, aI K yc np zc2, aI K ya na za2, aL K yd np fd2, aI K yl 64 zl2, aI K xc np zx] ∧ (-1 ≤ lp2 ∧ lp2 ≤ np - 1 ∧ 0 ≤ wp2 ∧ wp2 ≤ cnt ∧ -1 ≤ lw2 ∧ lw2 ≤ np - 1) ∧ (rng 0 3 zk2) ∧ (rng (-128) 127 zn2) ∧ (nmOk zk2 zn2) ∧ (rng 0 6 zc2) ∧ (rng (-128) 127 za2) ∧ (akOk zc2 za2) ∧ (rng (-1) (np-1) zl2)) := by
  refine ct_of (own := RX3) (lv := [(0, .ref y), (1, .ref xc), (2, .int (iZ cnt))]) (by decide) rfl (Nat.le_of_ble_eq_true rfl) rfl (fun C F hr hnm hzl => ?_)
  subst hzl
  refine z_iconst F dX3_keepOnly_0 ?_
  refine z_istore_n F (lv' := [(3, .int (iZ 0)), (0, .ref y), (1, .ref xc), (2, .int (iZ cnt))]) dX3_keepOnly_1 (by decide) rfl ?_
  have lp2 : ∀ (nn : Nat) (i : Int) (zkv : Nat → Int) (znv : Nat → Int) (zcv : Nat → Int) (zav : Nat → Int) (fdv : Nat → Int64), (0 ≤ i ∧ i ≤ cnt) → (rng 0 3 zkv) → (rng (-128) 127 znv) → (nmOk zkv znv) → (rng 0 6 zcv) → (rng (-128) 127 zav) → (akOk zcv zav) → ((cnt - i : Int).toNat < nn) → Go C { frames := 2, cells := 0, slots := 0, locals := 42 } D cls5 4 0 0 [oX3 y yk yn yc ya yd yl lp re wp lw, aI K yk np zkv, aI K yn np znv, aI K yc np zcv, aI K ya na zav, aL K yd np fdv, aI K yl 64 zl, aI K xc np zx] 2 [(3, .int (iZ i)), (0, .ref y), (1, .ref xc), (2, .int (iZ cnt))] [] := by
    intro nn
    induction nn with
    | zero => intro i zkv znv zcv zav fdv g2_0 g2_1 g2_2 g2_3 g2_4 g2_5 g2_6 hmu; exact absurd hmu (Nat.not_lt_zero _)
    | succ nn ih =>
      intro i zkv znv zcv zav fdv g2_0 g2_1 g2_2 g2_3 g2_4 g2_5 g2_6 hmu
      refine z_iload_n F 0 dX3_keepOnly_2 rfl ?_
      refine z_iload_n F 3 dX3_keepOnly_3 rfl ?_
      refine z_icmp_ge F 21 dX3_keepOnly_4 (by decide) (by omega) (fun c1 => ?_) (fun c1 => ?_)
      · refine z_aload_n F 1 dX3_keepOnly_21 rfl ?_
        refine z_iload_n F 3 dX3_keepOnly_22 rfl ?_
        refine z_put F (ws' := [oX3 y yk yn yc ya yd yl lp cnt wp lw, aI K yk np zkv, aI K yn np znv, aI K yc np zcv, aI K ya na zav, aL K yd np fdv, aI K yl 64 zl, aI K xc np zx]) 0 7 iX3 tyX3 tyX3_ok nmX3 rfl rfl (by decide) t1_70 rfl rfl rfl rfl (Nat.le_of_ble_eq_true rfl) dX3_keepOnly_23 rfl ?_
        refine z_aload_n F 1 dX3_keepOnly_26 rfl ?_
        refine z_callV F lw_good (k_X3_index _ D K y yk yn yc ya yd yl lp cnt wp lw np zkv znv zl (by omega) h1 h9 g2_3 g2_1) t1_199 t1_4 t1_196 t1_198 (q := (RX3, TX3, 10)) ts_2 ⟨rfl, rfl⟩ ndX3_index ⟨Nat.le_of_ble_eq_true rfl, Nat.le_of_ble_eq_true rfl⟩ 0 rfl rfl (rest := []) rfl (Nat.le_of_ble_eq_true rfl) dX3_keepOnly_27 ⟨(show 0 + 0 ≤ 0 by omega), (show 0 + 0 ≤ 0 by omega)⟩ (wr := [aI K yc np zcv, aI K ya na zav, aL K yd np fdv, aI K xc np zx]) ([0, 1, 2, 6] : List Nat) ([3, 4, 5, 7] : List Nat) rfl rfl rfl rfl (by decide) (fun v wo hp => ?_)
        obtain ⟨lp2_2, wp2_3, lw2_4, zl2_5, rfl, rfl, f6, f7⟩ := hp
        refine z_re F (ws' := [oX3 y yk yn yc ya yd yl lp2_2 cnt wp2_3 lw2_4, aI K yk np zkv, aI K yn np znv, aI K yc np zcv, aI K ya na zav, aL K yd np fdv, aI K yl 64 zl2_5, aI K xc np zx]) (st' := []) ([4, 5, 6, 0, 1, 2, 7, 3] : List Nat) rfl rfl rfl ?_
        exact z_vret F hr dX3_keepOnly_30 (by omega) ⟨lp2_2, wp2_3, lw2_4, zkv, znv, zcv, zav, fdv, zl2_5, rfl, rfl, f6, g2_1, g2_2, g2_3, g2_4, g2_5, g2_6, f7⟩
      · refine z_aload_n F 1 dX3_keepOnly_7 rfl ?_
        refine z_aload_n F 2 dX3_keepOnly_8 rfl ?_
        refine z_iload_n F 0 dX3_keepOnly_9 rfl ?_
        refine z_iald F 7 rfl rfl dX3_keepOnly_10 (by omega) (by omega) ?_
        have r8 : 0 ≤ zx i.toNat ∧ zx i.toNat ≤ (np-1) := h2 _
        refine z_iload_n F 0 dX3_keepOnly_11 rfl ?_
        refine z_callV F lw_good (k_X3_move _ D K y yk yn yc ya yd yl lp re wp lw np na zkv znv zcv zav fdv (zx i.toNat) i h0 (by omega) g2_1 g2_2 g2_3 g2_4 g2_5 g2_6) t2_140 t1_4 t2_137 t2_139 (q := (RX3, TX3, 10)) ts_16 ⟨rfl, rfl⟩ ndX3_move ⟨Nat.le_of_ble_eq_true rfl, Nat.le_of_ble_eq_true rfl⟩ 0 rfl rfl (rest := []) rfl (Nat.le_of_ble_eq_true rfl) dX3_keepOnly_12 ⟨(show 0 + 0 ≤ 0 by omega), (show 0 + 0 ≤ 0 by omega)⟩ (wr := [aI K yl 64 zl, aI K xc np zx]) ([0, 1, 2, 3, 4, 5] : List Nat) ([6, 7] : List Nat) rfl rfl rfl rfl (by decide) (fun v wo hp => ?_)
        obtain ⟨zk2_9, zn2_10, zc2_11, za2_12, fd2_13, rfl, rfl, f14, f15, f16, f17, f18, f19⟩ := hp
        refine z_re F (ws' := [oX3 y yk yn yc ya yd yl lp re wp lw, aI K yk np zk2_9, aI K yn np zn2_10, aI K yc np zc2_11, aI K ya na za2_12, aL K yd np fd2_13, aI K yl 64 zl, aI K xc np zx]) (st' := []) ([2, 3, 4, 5, 6, 7, 0, 1] : List Nat) rfl rfl rfl ?_
        refine z_iinc F (lv' := [(3, .int (iZ (i + 1))), (0, .ref y), (1, .ref xc), (2, .int (iZ cnt))]) 0 dX3_keepOnly_15 rfl (by decide) rfl ?_
        refine z_goto F 2 dX3_keepOnly_18 (by decide) ?_
        exact ih (i + 1) zk2_9 zn2_10 zc2_11 za2_12 fd2_13 (by omega) f14 f15 f16 f17 f18 f19 (by omega)
  exact lp2 ((cnt - 0 : Int).toNat + 1) 0 zk zn zc za fd (by omega) h3 h4 h5 h6 h7 h8 (Nat.lt_succ_self _)
set_option maxHeartbeats 4000000 in
set_option maxRecDepth 20000 in
theorem k_X3_write (l : Launch) (D : va_G) (K : KI) (y : Nat) (yk : Nat) (yn : Nat) (yc : Nat) (ya : Nat) (yd : Nat) (yl : Nat) (lp : Int) (re : Int) (wp : Int) (lw : Int) (np : Nat) (na : Nat) (zk : Nat → Int) (zn : Nat → Int) (zc : Nat → Int) (za : Nat → Int) (fd : Nat → Int64) (a : Nat) (n : Nat) (z : Nat → Int) (pl : Int) (pa : Int) (tp : Int) (h0 : 1 ≤ np ∧ np ≤ 304 ∧ (na : Int) = 6 * np) (h1 : 0 ≤ pl ∧ pl ≤ np - 1) (h2 : n < 2147483648 ∧ 0 ≤ pa ∧ pa + 32 ≤ n) (h3 : rng (-128) 127 z) (h4 : rng 0 6 zc) (h5 : rng (-128) 127 za) : Ct lw_T l yX3_write cX3_write 7 none { frames := 2, cells := 0, slots := 0, locals := 49 } 0 0 D cls5 (TY K) [.ref y, .int (iZ pl), .ref a, .int (iZ pa), .int (iZ tp)] [oX3 y yk yn yc ya yd yl lp re wp lw, aI K yk np zk, aI K yn np zn, aI K yc np zc, aI K ya na za, aL K yd np fd, aB K a n z] (fun v wo => ∃ (z2 : Nat → Int), v = none ∧ wo = [oX3 y yk yn yc ya yd yl lp re wp lw, aI K yk np zk, aI K yn np zn, aI K yc np zc, aI K ya na za, aL K yd np fd, aB K a n z2] ∧ (rng (-128) 127 z2)) := by
  refine ct_of (own := RX3) (lv := [(0, .ref y), (1, .int (iZ pl)), (2, .ref a), (3, .int (iZ pa)), (4, .int (iZ tp))]) (by decide) rfl (Nat.le_of_ble_eq_true rfl) rfl (fun C F hr hnm hzl => ?_)
  subst hzl
  refine z_aload_n F 0 dX3_write_0 rfl ?_
  refine z_get F 0 2 iX3 rfl rfl (by decide) t1_65 rfl dX3_write_1 ?_
  refine z_iload_n F 1 dX3_write_4 rfl ?_
  refine z_iald F 3 rfl rfl dX3_write_5 (by omega) (by omega) ?_
  have r1 : 0 ≤ zc pl.toNat ∧ zc pl.toNat ≤ 6 := h4 _
  refine z_istore F (lv' := [(5, .int (iZ (zc pl.toNat))), (0, .ref y), (1, .int (iZ pl)), (2, .ref a), (3, .int (iZ pa)), (4, .int (iZ tp))]) dX3_write_6 (by decide) rfl ?_
  refine z_iconst F dX3_write_8 ?_
  refine z_istore F (lv' := [(6, .int (iZ 0)), (5, .int (iZ (zc pl.toNat))), (0, .ref y), (1, .int (iZ pl)), (2, .ref a), (3, .int (iZ pa)), (4, .int (iZ tp))]) dX3_write_9 (by decide) rfl ?_
  have lp11 : ∀ (nn : Nat) (i : Int) (w : Nat → Int), (0 ≤ i ∧ i ≤ 32) → (rng (-128) 127 w) → ((32 - i : Int).toNat < nn) → Go C { frames := 2, cells := 0, slots := 0, locals := 49 } D cls5 7 0 0 [oX3 y yk yn yc ya yd yl lp re wp lw, aI K yk np zk, aI K yn np zn, aI K yc np zc, aI K ya na za, aL K yd np fd, aB K a n w] 11 [(6, .int (iZ i)), (5, .int (iZ (zc pl.toNat))), (0, .ref y), (1, .int (iZ pl)), (2, .ref a), (3, .int (iZ pa)), (4, .int (iZ tp))] [] := by
    intro nn
    induction nn with
    | zero => intro i w g11_0 g11_1 hmu; exact absurd hmu (Nat.not_lt_zero _)
    | succ nn ih =>
      intro i w g11_0 g11_1 hmu
      refine z_iload F 0 dX3_write_11 rfl ?_
      refine z_bipush F dX3_write_13 (by decide) ?_
      refine z_icmp_ge F 31 dX3_write_15 (by decide) (by omega) (fun c2 => ?_) (fun c2 => ?_)
      · refine z_aload_n F 4 dX3_write_31 rfl ?_
        refine z_iload_n F 5 dX3_write_32 rfl ?_
        refine z_aload_n F 2 dX3_write_33 rfl ?_
        refine z_get F 0 0 iX3 rfl rfl (by decide) t1_63 rfl dX3_write_34 ?_
        refine z_iload_n F 3 dX3_write_37 rfl ?_
        refine z_iald F 1 rfl rfl dX3_write_38 (by omega) (by omega) ?_
        refine z_i2b F dX3_write_39 ?_
        refine z_bast F (ws' := [oX3 y yk yn yc ya yd yl lp re wp lw, aI K yk np zk, aI K yn np zn, aI K yc np zc, aI K ya na za, aL K yd np fd, aB K a n (zu w pa.toNat (((zk pl.toNat).bmod 256).bmod 256))]) 6 rfl rfl dX3_write_40 (by omega) (by omega) rfl ?_
        have r3 : rng (-128) 127 (zu w pa.toNat (((zk pl.toNat).bmod 256).bmod 256)) := rng_zu g11_1 (bm_r _)
        refine z_aload_n F 4 dX3_write_41 rfl ?_
        refine z_iload_n F 5 dX3_write_42 rfl ?_
        refine z_iconst F dX3_write_43 ?_
        refine z_iadd F dX3_write_44 ?_
        refine z_aload_n F 2 dX3_write_45 rfl ?_
        refine z_get F 0 1 iX3 rfl rfl (by decide) t1_64 rfl dX3_write_46 ?_
        refine z_iload_n F 3 dX3_write_49 rfl ?_
        refine z_iald F 2 rfl rfl dX3_write_50 (by omega) (by omega) ?_
        refine z_i2b F dX3_write_51 ?_
        refine z_bast F (ws' := [oX3 y yk yn yc ya yd yl lp re wp lw, aI K yk np zk, aI K yn np zn, aI K yc np zc, aI K ya na za, aL K yd np fd, aB K a n (zu (zu w pa.toNat (((zk pl.toNat).bmod 256).bmod 256)) (pa + 1).toNat (((zn pl.toNat).bmod 256).bmod 256))]) 6 rfl rfl dX3_write_52 (by omega) (by omega) rfl ?_
        have r4 : rng (-128) 127 (zu (zu w pa.toNat (((zk pl.toNat).bmod 256).bmod 256)) (pa + 1).toNat (((zn pl.toNat).bmod 256).bmod 256)) := rng_zu r3 (bm_r _)
        refine z_aload_n F 4 dX3_write_53 rfl ?_
        refine z_iload_n F 5 dX3_write_54 rfl ?_
        refine z_iconst F dX3_write_55 ?_
        refine z_iadd F dX3_write_56 ?_
        refine z_iload F 1 dX3_write_57 rfl ?_
        refine z_i2b F dX3_write_59 ?_
        refine z_bast F (ws' := [oX3 y yk yn yc ya yd yl lp re wp lw, aI K yk np zk, aI K yn np zn, aI K yc np zc, aI K ya na za, aL K yd np fd, aB K a n (zu (zu (zu w pa.toNat (((zk pl.toNat).bmod 256).bmod 256)) (pa + 1).toNat (((zn pl.toNat).bmod 256).bmod 256)) (pa + 2).toNat (((zc pl.toNat).bmod 256).bmod 256))]) 6 rfl rfl dX3_write_60 (by omega) (by omega) rfl ?_
        have r5 : rng (-128) 127 (zu (zu (zu w pa.toNat (((zk pl.toNat).bmod 256).bmod 256)) (pa + 1).toNat (((zn pl.toNat).bmod 256).bmod 256)) (pa + 2).toNat (((zc pl.toNat).bmod 256).bmod 256)) := rng_zu r4 (bm_r _)
        refine z_iconst F dX3_write_61 ?_
        refine z_istore F (lv' := [(6, .int (iZ 0)), (5, .int (iZ (zc pl.toNat))), (0, .ref y), (1, .int (iZ pl)), (2, .ref a), (3, .int (iZ pa)), (4, .int (iZ tp))]) dX3_write_62 (by decide) rfl ?_
        have lp64 : ∀ (nn : Nat) (i : Int) (w : Nat → Int), (0 ≤ i ∧ i ≤ zc pl.toNat) → (rng (-128) 127 w) → ((zc pl.toNat - i : Int).toNat < nn) → Go C { frames := 2, cells := 0, slots := 0, locals := 49 } D cls5 7 0 0 [oX3 y yk yn yc ya yd yl lp re wp lw, aI K yk np zk, aI K yn np zn, aI K yc np zc, aI K ya na za, aL K yd np fd, aB K a n w] 64 [(6, .int (iZ i)), (5, .int (iZ (zc pl.toNat))), (0, .ref y), (1, .int (iZ pl)), (2, .ref a), (3, .int (iZ pa)), (4, .int (iZ tp))] [] := by
          intro nn
          induction nn with
          | zero => intro i w g64_0 g64_1 hmu; exact absurd hmu (Nat.not_lt_zero _)
          | succ nn ih =>
            intro i w g64_0 g64_1 hmu
            refine z_iload F 0 dX3_write_64 rfl ?_
            refine z_iload F 1 dX3_write_66 rfl ?_
            refine z_icmp_ge F 93 dX3_write_68 (by decide) (by omega) (fun c6 => ?_) (fun c6 => ?_)
            · refine z_aload_n F 4 dX3_write_93 rfl ?_
              refine z_iload_n F 5 dX3_write_94 rfl ?_
              refine z_bipush F dX3_write_95 (by decide) ?_
              refine z_iadd F dX3_write_97 ?_
              refine z_bipush F dX3_write_98 (by decide) ?_
              refine z_aload_n F 2 dX3_write_100 rfl ?_
              refine z_get F 0 4 iX3 rfl rfl (by decide) t1_67 rfl dX3_write_101 ?_
              refine z_iload_n F 3 dX3_write_104 rfl ?_
              refine z_lald F 5 rfl rfl dX3_write_105 (by omega) (by omega) ?_
              refine z_callS F lw_good (k_X2_write _ D K a n w (pa + 16) 8 (fd pl.toNat) (by omega) g64_1) t2_36 t1_8 t2_78 t2_35 ⟨rfl, rfl⟩ ndX2_write ⟨Nat.le_of_ble_eq_true rfl, Nat.le_of_ble_eq_true rfl⟩ (rest := []) rfl (Nat.le_of_ble_eq_true rfl) dX3_write_106 ⟨(show 0 + 0 ≤ 0 by omega), (show 0 + 0 ≤ 0 by omega)⟩ (wr := [oX3 y yk yn yc ya yd yl lp re wp lw, aI K yk np zk, aI K yn np zn, aI K yc np zc, aI K ya na za, aL K yd np fd]) ([6] : List Nat) ([0, 1, 2, 3, 4, 5] : List Nat) rfl rfl rfl rfl (by decide) (fun v wo hp => ?_)
              obtain ⟨z2_7, rfl, rfl, f8⟩ := hp
              refine z_re F (ws' := [oX3 y yk yn yc ya yd yl lp re wp lw, aI K yk np zk, aI K yn np zn, aI K yc np zc, aI K ya na za, aL K yd np fd, aB K a n z2_7]) (st' := []) ([0, 1, 2, 3, 4, 5, 6] : List Nat) rfl rfl rfl ?_
              refine z_aload_n F 4 dX3_write_109 rfl ?_
              refine z_iload_n F 5 dX3_write_110 rfl ?_
              refine z_bipush F dX3_write_111 (by decide) ?_
              refine z_iload F 6 dX3_write_113 rfl ?_
              refine z_callS F lw_good (k_X2_writeSum _ D K a n z2_7 pa 28 tp (by omega) f8) t2_39 t1_8 t2_79 t2_38 ⟨rfl, rfl⟩ ndX2_writeSum ⟨Nat.le_of_ble_eq_true rfl, Nat.le_of_ble_eq_true rfl⟩ (rest := []) rfl (Nat.le_of_ble_eq_true rfl) dX3_write_115 ⟨(show 0 + 0 ≤ 0 by omega), (show 0 + 0 ≤ 0 by omega)⟩ (wr := [oX3 y yk yn yc ya yd yl lp re wp lw, aI K yk np zk, aI K yn np zn, aI K yc np zc, aI K ya na za, aL K yd np fd]) ([6] : List Nat) ([0, 1, 2, 3, 4, 5] : List Nat) rfl rfl rfl rfl (by decide) (fun v wo hp => ?_)
              obtain ⟨z2_9, rfl, rfl, f10⟩ := hp
              refine z_re F (ws' := [oX3 y yk yn yc ya yd yl lp re wp lw, aI K yk np zk, aI K yn np zn, aI K yc np zc, aI K ya na za, aL K yd np fd, aB K a n z2_9]) (st' := []) ([0, 1, 2, 3, 4, 5, 6] : List Nat) rfl rfl rfl ?_
              exact z_vret F hr dX3_write_118 (by omega) ⟨z2_9, rfl, rfl, f10⟩
            · refine z_aload_n F 4 dX3_write_71 rfl ?_
              refine z_iload_n F 5 dX3_write_72 rfl ?_
              refine z_iconst F dX3_write_73 ?_
              refine z_iadd F dX3_write_74 ?_
              refine z_iload F 0 dX3_write_75 rfl ?_
              refine z_iadd F dX3_write_77 ?_
              refine z_aload_n F 2 dX3_write_78 rfl ?_
              refine z_iload_n F 3 dX3_write_79 rfl ?_
              refine z_iload F 0 dX3_write_80 rfl ?_
              refine z_callV F lw_good (k_X3_askAt _ D K y yk yn yc ya yd yl lp re wp lw na za pl i (by omega)) t2_77 t1_4 t2_74 t2_75 (q := (RX3, TX3, 10)) t2_76 ⟨rfl, rfl⟩ ndX3_askAt ⟨Nat.le_of_ble_eq_true rfl, Nat.le_of_ble_eq_true rfl⟩ 0 rfl rfl (rest := [.int (iZ ((pa + 3) + i)), .ref a]) rfl (Nat.le_of_ble_eq_true rfl) dX3_write_82 ⟨(show 0 + 0 ≤ 0 by omega), (show 0 + 0 ≤ 0 by omega)⟩ (wr := [aI K yk np zk, aI K yn np zn, aI K yc np zc, aL K yd np fd, aB K a n w]) ([0, 4] : List Nat) ([1, 2, 3, 5, 6] : List Nat) rfl rfl rfl rfl (by decide) (fun v wo hp => ?_)
              obtain ⟨rfl, rfl⟩ := hp
              refine z_re F (ws' := [oX3 y yk yn yc ya yd yl lp re wp lw, aI K yk np zk, aI K yn np zn, aI K yc np zc, aI K ya na za, aL K yd np fd, aB K a n w]) (st' := [.int (iZ (za ((pl * 6) + i).toNat)), .int (iZ ((pa + 3) + i)), .ref a]) ([5, 0, 1, 2, 6, 3, 4] : List Nat) rfl rfl rfl ?_
              refine z_i2b F dX3_write_85 ?_
              refine z_bast F (ws' := [oX3 y yk yn yc ya yd yl lp re wp lw, aI K yk np zk, aI K yn np zn, aI K yc np zc, aI K ya na za, aL K yd np fd, aB K a n (zu w ((pa + 3) + i).toNat (((za ((pl * 6) + i).toNat).bmod 256).bmod 256))]) 6 rfl rfl dX3_write_86 (by omega) (by omega) rfl ?_
              have r11 : rng (-128) 127 (zu w ((pa + 3) + i).toNat (((za ((pl * 6) + i).toNat).bmod 256).bmod 256)) := rng_zu g64_1 (bm_r _)
              refine z_iinc F (lv' := [(6, .int (iZ (i + 1))), (5, .int (iZ (zc pl.toNat))), (0, .ref y), (1, .int (iZ pl)), (2, .ref a), (3, .int (iZ pa)), (4, .int (iZ tp))]) 0 dX3_write_87 rfl (by decide) rfl ?_
              refine z_goto F 64 dX3_write_90 (by decide) ?_
              exact ih (i + 1) (zu w ((pa + 3) + i).toNat (((za ((pl * 6) + i).toNat).bmod 256).bmod 256)) (by omega) r11 (by omega)
        exact lp64 ((zc pl.toNat - 0 : Int).toNat + 1) 0 (zu (zu (zu w pa.toNat (((zk pl.toNat).bmod 256).bmod 256)) (pa + 1).toNat (((zn pl.toNat).bmod 256).bmod 256)) (pa + 2).toNat (((zc pl.toNat).bmod 256).bmod 256)) (by omega) r5 (Nat.lt_succ_self _)
      · refine z_aload_n F 4 dX3_write_18 rfl ?_
        refine z_iload_n F 5 dX3_write_19 rfl ?_
        refine z_iload F 0 dX3_write_20 rfl ?_
        refine z_iadd F dX3_write_22 ?_
        refine z_iconst F dX3_write_23 ?_
        refine z_bast F (ws' := [oX3 y yk yn yc ya yd yl lp re wp lw, aI K yk np zk, aI K yn np zn, aI K yc np zc, aI K ya na za, aL K yd np fd, aB K a n (zu w (pa + i).toNat ((0 : Int).bmod 256))]) 6 rfl rfl dX3_write_24 (by omega) (by omega) rfl ?_
        have r12 : rng (-128) 127 (zu w (pa + i).toNat ((0 : Int).bmod 256)) := rng_zu g11_1 (bm_r _)
        refine z_iinc F (lv' := [(6, .int (iZ (i + 1))), (5, .int (iZ (zc pl.toNat))), (0, .ref y), (1, .int (iZ pl)), (2, .ref a), (3, .int (iZ pa)), (4, .int (iZ tp))]) 0 dX3_write_25 rfl (by decide) rfl ?_
        refine z_goto F 11 dX3_write_28 (by decide) ?_
        exact ih (i + 1) (zu w (pa + i).toNat ((0 : Int).bmod 256)) (by omega) r12 (by omega)
  exact lp11 ((32 - 0 : Int).toNat + 1) 0 z (by omega) h3 (Nat.lt_succ_self _)
end
section
set_option maxHeartbeats 4000000 in
set_option maxRecDepth 20000 in
theorem k_X0_waiting (l : Launch) (D : va_G) (K : KI) (d : Nat) (sc : Int) (db : Nat) (dq : Nat) (dt : Nat) (wc : Int)  : Ct lw_T l yX0_waiting cX0_waiting 1 (some .int) { frames := 0, cells := 0, slots := 0, locals := 0 } 0 0 D cls5 (TY K) [.ref d] [oX0 d sc db dq dt wc] (fun v wo => v = some (.int (iZ wc)) ∧ wo = [oX0 d sc db dq dt wc]) := by
  refine ct_of (own := RX0) (lv := [(0, .ref d)]) (by decide) rfl (Nat.le_of_ble_eq_true rfl) rfl (fun C F hr hnm hzl => ?_)
  subst hzl
  refine z_aload_n F 0 dX0_waiting_0 rfl ?_
  refine z_get F 0 4 iX0 rfl rfl (by decide) t1_43 rfl dX0_waiting_1 ?_
  exact z_iret F hr dX0_waiting_4 (by omega) ⟨rfl, rfl⟩
set_option maxHeartbeats 4000000 in
set_option maxRecDepth 20000 in
theorem k_X0_latestWrite (l : Launch) (D : va_G) (K : KI) (d : Nat) (sc : Int) (db : Nat) (dq : Nat) (dt : Nat) (wc : Int) (zt : Nat → Int) (tg : Int) (h0 : 4 ≤ sc ∧ sc ≤ 40) (h1 : 0 ≤ wc ∧ wc ≤ 64) (h2 : rng 0 (sc-1) zt) (h3 : 0 ≤ tg ∧ tg ≤ sc - 1) : Ct lw_T l yX0_latestWrite cX0_latestWrite 3 (some .int) { frames := 0, cells := 0, slots := 0, locals := 0 } 0 0 D cls5 (TY K) [.ref d, .int (iZ tg)] [oX0 d sc db dq dt wc, aI K dt 64 zt] (fun v wo => ∃ (r : Int), v = some (.int (iZ r)) ∧ wo = [oX0 d sc db dq dt wc, aI K dt 64 zt] ∧ (-1 ≤ r ∧ r ≤ wc - 1)) := by
  refine ct_of (own := RX0) (lv := [(0, .ref d), (1, .int (iZ tg))]) (by decide) rfl (Nat.le_of_ble_eq_true rfl) rfl (fun C F hr hnm hzl => ?_)
  subst hzl
  refine z_aload_n F 0 dX0_latestWrite_0 rfl ?_
  refine z_get F 0 4 iX0 rfl rfl (by decide) t1_43 rfl dX0_latestWrite_1 ?_
  refine z_iconst F dX0_latestWrite_4 ?_
  refine z_isub F dX0_latestWrite_5 ?_
  refine z_istore_n F (lv' := [(2, .int (iZ (wc - 1))), (0, .ref d), (1, .int (iZ tg))]) dX0_latestWrite_6 (by decide) rfl ?_
  have lp7 : ∀ (nn : Nat) (i : Int), (-1 ≤ i ∧ i ≤ wc - 1) → ((i + 1 : Int).toNat < nn) → Go C { frames := 0, cells := 0, slots := 0, locals := 0 } D cls5 3 0 0 [oX0 d sc db dq dt wc, aI K dt 64 zt] 7 [(2, .int (iZ i)), (0, .ref d), (1, .int (iZ tg))] [] := by
    intro nn
    induction nn with
    | zero => intro i g7_0 hmu; exact absurd hmu (Nat.not_lt_zero _)
    | succ nn ih =>
      intro i g7_0 hmu
      refine z_iload_n F 0 dX0_latestWrite_7 rfl ?_
      refine z_if_lt F 29 dX0_latestWrite_8 (by decide) (by omega) (fun c1 => ?_) (fun c1 => ?_)
      · refine z_iconst F dX0_latestWrite_29 ?_
        exact z_iret F hr dX0_latestWrite_30 (by omega) ⟨(-1), rfl, rfl, (by omega)⟩
      · refine z_aload_n F 1 dX0_latestWrite_11 rfl ?_
        refine z_get F 0 3 iX0 rfl rfl (by decide) t1_42 rfl dX0_latestWrite_12 ?_
        refine z_iload_n F 0 dX0_latestWrite_15 rfl ?_
        refine z_iald F 1 rfl rfl dX0_latestWrite_16 (by omega) (by omega) ?_
        have r2 : 0 ≤ zt i.toNat ∧ zt i.toNat ≤ (sc-1) := h2 _
        refine z_iload_n F 2 dX0_latestWrite_17 rfl ?_
        refine z_icmp_ne F 23 dX0_latestWrite_18 (by decide) (by omega) (fun c3 => ?_) (fun c3 => ?_)
        · refine z_iinc F (lv' := [(2, .int (iZ (i + (-1)))), (0, .ref d), (1, .int (iZ tg))]) 0 dX0_latestWrite_23 rfl (by decide) rfl ?_
          refine z_goto F 7 dX0_latestWrite_26 (by decide) ?_
          exact ih (i + (-1)) (by omega) (by omega)
        · refine z_iload_n F 0 dX0_latestWrite_21 rfl ?_
          exact z_iret F hr dX0_latestWrite_22 (by omega) ⟨i, rfl, rfl, g7_0⟩
  exact lp7 (((wc - 1) + 1 : Int).toNat + 1) (wc - 1) (by omega) (Nat.lt_succ_self _)
set_option maxHeartbeats 4000000 in
set_option maxRecDepth 20000 in
theorem k_X0_waitAsItWillBe (l : Launch) (D : va_G) (K : KI) (d : Nat) (sc : Int) (db : Nat) (dq : Nat) (dt : Nat) (wc : Int) (nb : Nat) (zb : Nat → Int) (zq : Nat → Int) (zt : Nat → Int) (tg : Int) (h0 : 4 ≤ sc ∧ sc ≤ 40 ∧ (nb : Int) = 512 * sc) (h1 : rng (-128) 127 zb) (h2 : rng (-128) 127 zq) (h3 : rng 0 (sc-1) zt) (h4 : 0 ≤ wc ∧ wc ≤ 64) (h5 : 0 ≤ tg ∧ tg ≤ sc - 1) : Ct lw_T l yX0_waitAsItWillBe cX0_waitAsItWillBe 4 (some .int) { frames := 2, cells := 0, slots := 0, locals := 65 } 0 0 D cls5 (TY K) [.ref d, .int (iZ tg)] [oX0 d sc db dq dt wc, aB K db nb zb, aB K dq 32768 zq, aI K dt 64 zt] (fun v wo => ∃ (r : Int), ∃ (wc2 : Int), ∃ (zb2 : Nat → Int), ∃ (zq2 : Nat → Int), ∃ (zt2 : Nat → Int), v = some (.int (iZ r)) ∧ wo = [oX0 d sc db dq dt wc2, aB K db nb zb2, aB K dq 32768 zq2, aI K dt 64 zt2] ∧ (0 ≤ r ∧ r + 512 ≤ 32768) ∧ (0 ≤ wc2 ∧ wc2 ≤ 64) ∧ (rng (-128) 127 zb2) ∧ (rng (-128) 127 zq2) ∧ (rng 0 (sc-1) zt2)) := by
  refine ct_of (own := RX0) (lv := [(0, .ref d), (1, .int (iZ tg))]) (by decide) rfl (Nat.le_of_ble_eq_true rfl) rfl (fun C F hr hnm hzl => ?_)
  subst hzl
  refine z_aload_n F 0 dX0_waitAsItWillBe_0 rfl ?_
  refine z_get F 0 4 iX0 rfl rfl (by decide) t1_43 rfl dX0_waitAsItWillBe_1 ?_
  refine z_bipush F dX0_waitAsItWillBe_4 (by decide) ?_
  have lp17 : ∀ (w1 : Int) (b1 : Nat → Int), (0 ≤ w1 ∧ w1 ≤ 63) → (rng (-128) 127 b1) → Go C { frames := 2, cells := 0, slots := 0, locals := 65 } D cls5 4 0 0 [oX0 d sc db dq dt w1, aB K db nb b1, aB K dq 32768 zq, aI K dt 64 zt] 17 [(0, .ref d), (1, .int (iZ tg))] [] := by
    intro w1 b1 g17_0 g17_1
    refine z_aload_n F 0 dX0_waitAsItWillBe_17 rfl ?_
    refine z_get F 0 4 iX0 rfl rfl (by decide) t1_43 rfl dX0_waitAsItWillBe_18 ?_
    refine z_sipush F dX0_waitAsItWillBe_21 (by decide) ?_
    refine z_imul F dX0_waitAsItWillBe_24 ?_
    refine z_istore_n F (lv' := [(2, .int (iZ (w1 * 512))), (0, .ref d), (1, .int (iZ tg))]) dX0_waitAsItWillBe_25 (by decide) rfl ?_
    refine z_aload_n F 1 dX0_waitAsItWillBe_26 rfl ?_
    refine z_iload_n F 2 dX0_waitAsItWillBe_27 rfl ?_
    refine z_callV F lw_good (k_X0_latestWrite _ D K d sc db dq dt w1 zt tg (by omega) (by omega) h3 h5) t2_69 t1_3 t2_66 t2_68 (q := (RX0, TX0, 5)) ts_12 ⟨rfl, rfl⟩ ndX0_latestWrite ⟨Nat.le_of_ble_eq_true rfl, Nat.le_of_ble_eq_true rfl⟩ 0 rfl rfl (rest := []) rfl (Nat.le_of_ble_eq_true rfl) dX0_waitAsItWillBe_28 ⟨(show 0 + 0 ≤ 0 by omega), (show 0 + 0 ≤ 0 by omega)⟩ (wr := [aB K db nb b1, aB K dq 32768 zq]) ([0, 3] : List Nat) ([1, 2] : List Nat) rfl rfl rfl rfl (by decide) (fun v wo hp => ?_)
    obtain ⟨r_1, rfl, rfl, f2⟩ := hp
    refine z_re F (ws' := [oX0 d sc db dq dt w1, aB K db nb b1, aB K dq 32768 zq, aI K dt 64 zt]) (st' := [.int (iZ r_1)]) ([2, 0, 1, 3] : List Nat) rfl rfl rfl ?_
    refine z_istore_n F (lv' := [(3, .int (iZ r_1)), (2, .int (iZ (w1 * 512))), (0, .ref d), (1, .int (iZ tg))]) dX0_waitAsItWillBe_31 (by decide) rfl ?_
    refine z_iload_n F 0 dX0_waitAsItWillBe_32 rfl ?_
    refine z_iconst F dX0_waitAsItWillBe_33 ?_
    refine z_icmp_ne F 60 dX0_waitAsItWillBe_34 (by decide) (by omega) (fun c3 => ?_) (fun c3 => ?_)
    · refine z_aload_n F 2 dX0_waitAsItWillBe_60 rfl ?_
      refine z_get F 0 2 iX0 rfl rfl (by decide) t1_40 rfl dX0_waitAsItWillBe_61 ?_
      refine z_iload_n F 0 dX0_waitAsItWillBe_64 rfl ?_
      refine z_sipush F dX0_waitAsItWillBe_65 (by decide) ?_
      refine z_imul F dX0_waitAsItWillBe_68 ?_
      refine z_aload_n F 2 dX0_waitAsItWillBe_69 rfl ?_
      refine z_get F 0 2 iX0 rfl rfl (by decide) t1_40 rfl dX0_waitAsItWillBe_70 ?_
      refine z_iload_n F 1 dX0_waitAsItWillBe_73 rfl ?_
      refine z_sipush F dX0_waitAsItWillBe_74 (by decide) ?_
      refine z_copy F (ws' := [oX0 d sc db dq dt w1, aB K db nb b1, aB K dq 32768 (va_cpy zq zq (r_1 * 512).toNat (w1 * 512).toNat (512 : Int).toNat), aI K dt 64 zt]) 2 2 1 rfl rfl rfl rfl t1_221 t1_223 t1_222 t1_9 (by omega) (fun i _ => fitB (h2 _)) (Nat.le_of_ble_eq_true rfl) (Nat.le_of_ble_eq_true rfl) dX0_waitAsItWillBe_77 rfl ?_
      have r4 : rng (-128) 127 (va_cpy zq zq (r_1 * 512).toNat (w1 * 512).toNat (512 : Int).toNat) := rng_cpy h2 h2
      refine z_aload_n F 2 dX0_waitAsItWillBe_80 rfl ?_
      refine z_iload_n F 3 dX0_waitAsItWillBe_81 rfl ?_
      refine z_callV F lw_good (k_X0_addTarget _ D K d sc db dq dt w1 zt tg g17_0 h3 h5) t1_227 t1_3 t1_224 t1_226 (q := (RX0, TX0, 5)) ts_6 ⟨rfl, rfl⟩ ndX0_addTarget ⟨Nat.le_of_ble_eq_true rfl, Nat.le_of_ble_eq_true rfl⟩ 0 rfl rfl (rest := []) rfl (Nat.le_of_ble_eq_true rfl) dX0_waitAsItWillBe_82 ⟨(show 0 + 0 ≤ 0 by omega), (show 0 + 0 ≤ 0 by omega)⟩ (wr := [aB K db nb b1, aB K dq 32768 (va_cpy zq zq (r_1 * 512).toNat (w1 * 512).toNat (512 : Int).toNat)]) ([0, 3] : List Nat) ([1, 2] : List Nat) rfl rfl rfl rfl (by decide) (fun v wo hp => ?_)
      obtain ⟨r_5, zt2_6, rfl, rfl, f7, f8⟩ := hp
      refine z_re F (ws' := [oX0 d sc db dq dt (w1 + 1), aB K db nb b1, aB K dq 32768 (va_cpy zq zq (r_1 * 512).toNat (w1 * 512).toNat (512 : Int).toNat), aI K dt 64 zt2_6]) (st' := [.int (iZ r_5)]) ([2, 0, 1, 3] : List Nat) rfl rfl rfl ?_
      exact z_iret F hr dX0_waitAsItWillBe_85 (by omega) ⟨r_5, (w1 + 1), b1, (va_cpy zq zq (r_1 * 512).toNat (w1 * 512).toNat (512 : Int).toNat), zt2_6, rfl, rfl, (by omega), (by omega), g17_1, r4, f8⟩
    · refine z_aload_n F 2 dX0_waitAsItWillBe_37 rfl ?_
      refine z_get F 0 1 iX0 rfl rfl (by decide) t1_38 rfl dX0_waitAsItWillBe_38 ?_
      refine z_iload_n F 3 dX0_waitAsItWillBe_41 rfl ?_
      refine z_sipush F dX0_waitAsItWillBe_42 (by decide) ?_
      refine z_imul F dX0_waitAsItWillBe_45 ?_
      refine z_aload_n F 2 dX0_waitAsItWillBe_46 rfl ?_
      refine z_get F 0 2 iX0 rfl rfl (by decide) t1_40 rfl dX0_waitAsItWillBe_47 ?_
      refine z_iload_n F 1 dX0_waitAsItWillBe_50 rfl ?_
      refine z_sipush F dX0_waitAsItWillBe_51 (by decide) ?_
      refine z_copy F (ws' := [oX0 d sc db dq dt w1, aB K db nb b1, aB K dq 32768 (va_cpy b1 zq (tg * 512).toNat (w1 * 512).toNat (512 : Int).toNat), aI K dt 64 zt]) 1 2 1 rfl rfl rfl rfl t1_221 t1_223 t1_222 t1_9 (by omega) (fun i _ => fitB (g17_1 _)) (Nat.le_of_ble_eq_true rfl) (Nat.le_of_ble_eq_true rfl) dX0_waitAsItWillBe_54 rfl ?_
      have r9 : rng (-128) 127 (va_cpy b1 zq (tg * 512).toNat (w1 * 512).toNat (512 : Int).toNat) := rng_cpy g17_1 h2
      refine z_goto F 80 dX0_waitAsItWillBe_57 (by decide) ?_
      refine z_aload_n F 2 dX0_waitAsItWillBe_80 rfl ?_
      refine z_iload_n F 3 dX0_waitAsItWillBe_81 rfl ?_
      refine z_callV F lw_good (k_X0_addTarget _ D K d sc db dq dt w1 zt tg g17_0 h3 h5) t1_227 t1_3 t1_224 t1_226 (q := (RX0, TX0, 5)) ts_6 ⟨rfl, rfl⟩ ndX0_addTarget ⟨Nat.le_of_ble_eq_true rfl, Nat.le_of_ble_eq_true rfl⟩ 0 rfl rfl (rest := []) rfl (Nat.le_of_ble_eq_true rfl) dX0_waitAsItWillBe_82 ⟨(show 0 + 0 ≤ 0 by omega), (show 0 + 0 ≤ 0 by omega)⟩ (wr := [aB K db nb b1, aB K dq 32768 (va_cpy b1 zq (tg * 512).toNat (w1 * 512).toNat (512 : Int).toNat)]) ([0, 3] : List Nat) ([1, 2] : List Nat) rfl rfl rfl rfl (by decide) (fun v wo hp => ?_)
      obtain ⟨r_10, zt2_11, rfl, rfl, f12, f13⟩ := hp
      refine z_re F (ws' := [oX0 d sc db dq dt (w1 + 1), aB K db nb b1, aB K dq 32768 (va_cpy b1 zq (tg * 512).toNat (w1 * 512).toNat (512 : Int).toNat), aI K dt 64 zt2_11]) (st' := [.int (iZ r_10)]) ([2, 0, 1, 3] : List Nat) rfl rfl rfl ?_
      exact z_iret F hr dX0_waitAsItWillBe_85 (by omega) ⟨r_10, (w1 + 1), b1, (va_cpy b1 zq (tg * 512).toNat (w1 * 512).toNat (512 : Int).toNat), zt2_11, rfl, rfl, (by omega), (by omega), g17_1, r9, f13⟩
  refine z_icmp_lt F 17 dX0_waitAsItWillBe_6 (by decide) (by omega) (fun c14 => ?_) (fun c14 => ?_)
  · exact lp17 wc zb (by omega) h1
  · refine z_aload_n F 0 dX0_waitAsItWillBe_9 rfl ?_
    refine z_bipush F dX0_waitAsItWillBe_10 (by decide) ?_
    refine z_iconst F dX0_waitAsItWillBe_12 ?_
    refine z_callV F lw_good (k_X0_bring _ D K d sc db dq dt wc nb zb zq zt 64 0 h0 h1 h2 h3 h4 (by omega)) t1_219 t1_3 t1_216 t1_217 (q := (RX0, TX0, 5)) t1_218 ⟨rfl, rfl⟩ ndX0_bring ⟨Nat.le_of_ble_eq_true rfl, Nat.le_of_ble_eq_true rfl⟩ 0 rfl rfl (rest := []) rfl (Nat.le_of_ble_eq_true rfl) dX0_waitAsItWillBe_13 ⟨(show 0 + 0 ≤ 0 by omega), (show 0 + 0 ≤ 0 by omega)⟩ (wr := []) ([0, 1, 2, 3] : List Nat) ([] : List Nat) rfl rfl rfl rfl (by decide) (fun v wo hp => ?_)
    obtain ⟨r_15, zb2_16, rfl, rfl, f17, f18⟩ := hp
    refine z_re F (ws' := [oX0 d sc db dq dt 0, aB K db nb zb2_16, aB K dq 32768 zq, aI K dt 64 zt]) (st' := [.int (iZ r_15)]) ([0, 1, 2, 3] : List Nat) rfl rfl rfl ?_
    refine z_pop F dX0_waitAsItWillBe_16 rfl ?_
    exact lp17 0 zb2_16 (by omega) f18
set_option maxHeartbeats 4000000 in
set_option maxRecDepth 20000 in
theorem k_X1_editionAt (l : Launch) (D : va_G) (K : KI) (a : Nat) (n : Nat) (z : Nat → Int) (h : Int) (h0 : 1024 ≤ n ∧ n < 2147483648 ∧ 0 ≤ h ∧ h ≤ 1) : Ct lw_T l yX1_editionAt cX1_editionAt 2 (some .long) { frames := 1, cells := 0, slots := 0, locals := 25 } 0 0 D cls5 (TY K) [.ref a, .int (iZ h)] [aB K a n z] (fun v wo => ∃ (r : Int64), v = some (.long r) ∧ wo = [aB K a n z]) := by
  refine ct_of (own := RX1) (lv := [(0, .ref a), (1, .int (iZ h))]) (by decide) rfl (Nat.le_of_ble_eq_true rfl) rfl (fun C F hr hnm hzl => ?_)
  subst hzl
  refine z_aload_n F 0 dX1_editionAt_0 rfl ?_
  refine z_iload_n F 1 dX1_editionAt_1 rfl ?_
  refine z_sipush F dX1_editionAt_2 (by decide) ?_
  refine z_imul F dX1_editionAt_5 ?_
  refine z_iconst F dX1_editionAt_6 ?_
  refine z_callS F lw_good (k_X2_read _ D K a n z (h * 512) 4 (by omega)) t1_164 t1_8 t1_162 t1_163 ⟨rfl, rfl⟩ ndX2_read ⟨Nat.le_of_ble_eq_true rfl, Nat.le_of_ble_eq_true rfl⟩ (rest := []) rfl (Nat.le_of_ble_eq_true rfl) dX1_editionAt_7 ⟨(show 0 + 0 ≤ 0 by omega), (show 0 + 0 ≤ 0 by omega)⟩ (wr := []) ([0] : List Nat) ([] : List Nat) rfl rfl rfl rfl (by decide) (fun v wo hp => ?_)
  obtain ⟨r_1, rfl, rfl, f2⟩ := hp
  refine z_re F (ws' := [aB K a n z]) (st' := [.long r_1]) ([0] : List Nat) rfl rfl rfl ?_
  exact z_lret F hr dX1_editionAt_10 (by omega) ⟨r_1, rfl, rfl⟩
set_option maxHeartbeats 4000000 in
set_option maxRecDepth 20000 in
theorem k_X4_has (l : Launch) (D : va_G) (K : KI) (u : Nat) (um : Nat) (ud : Nat) (zm : Nat → Int) (k : Int) (h0 : 0 ≤ k ∧ k ≤ 63) (h1 : rng 0 1 zm) : Ct lw_T l yX4_has cX4_has 2 (some .boolean) { frames := 0, cells := 0, slots := 0, locals := 0 } 0 0 D cls5 (TY K) [.ref u, .int (iZ k)] [oX4 u um ud, aZ K um 64 zm] (fun v wo => v = some (.int (iZ (zm k.toNat))) ∧ wo = [oX4 u um ud, aZ K um 64 zm]) := by
  refine ct_of (own := RX4) (lv := [(0, .ref u), (1, .int (iZ k))]) (by decide) rfl (Nat.le_of_ble_eq_true rfl) rfl (fun C F hr hnm hzl => ?_)
  subst hzl
  refine z_aload_n F 0 dX4_has_0 rfl ?_
  refine z_get F 0 0 iX4 rfl rfl (by decide) t1_101 rfl dX4_has_1 ?_
  refine z_iload_n F 1 dX4_has_4 rfl ?_
  refine z_zald F 1 rfl rfl dX4_has_5 (by omega) (by omega) ?_
  have r1 : 0 ≤ zm k.toNat ∧ zm k.toNat ≤ 1 := h1 _
  exact z_zret F hr (nar01 (by omega)) dX4_has_6 (by omega) ⟨rfl, rfl⟩
set_option maxHeartbeats 4000000 in
set_option maxRecDepth 20000 in
theorem k_X4_digestOf (l : Launch) (D : va_G) (K : KI) (u : Nat) (um : Nat) (ud : Nat) (fu : Nat → Int64) (k : Int) (h0 : 0 ≤ k ∧ k ≤ 63) : Ct lw_T l yX4_digestOf cX4_digestOf 2 (some .long) { frames := 0, cells := 0, slots := 0, locals := 0 } 0 0 D cls5 (TY K) [.ref u, .int (iZ k)] [oX4 u um ud, aL K ud 64 fu] (fun v wo => v = some (.long (fu k.toNat)) ∧ wo = [oX4 u um ud, aL K ud 64 fu]) := by
  refine ct_of (own := RX4) (lv := [(0, .ref u), (1, .int (iZ k))]) (by decide) rfl (Nat.le_of_ble_eq_true rfl) rfl (fun C F hr hnm hzl => ?_)
  subst hzl
  refine z_aload_n F 0 dX4_digestOf_0 rfl ?_
  refine z_get F 0 1 iX4 rfl rfl (by decide) t1_102 rfl dX4_digestOf_1 ?_
  refine z_iload_n F 1 dX4_digestOf_4 rfl ?_
  refine z_lald F 1 rfl rfl dX4_digestOf_5 (by omega) (by omega) ?_
  exact z_lret F hr dX4_digestOf_6 (by omega) ⟨rfl, rfl⟩
set_option maxHeartbeats 4000000 in
set_option maxRecDepth 20000 in
theorem k_X4_count (l : Launch) (D : va_G) (K : KI) (u : Nat) (um : Nat) (ud : Nat) (zm : Nat → Int) (h0 : rng 0 1 zm) : Ct lw_T l yX4_count cX4_count 3 (some .int) { frames := 0, cells := 0, slots := 0, locals := 0 } 0 0 D cls5 (TY K) [.ref u] [oX4 u um ud, aZ K um 64 zm] (fun v wo => ∃ (r : Int), v = some (.int (iZ r)) ∧ wo = [oX4 u um ud, aZ K um 64 zm] ∧ (0 ≤ r ∧ r ≤ 64)) := by
  refine ct_of (own := RX4) (lv := [(0, .ref u)]) (by decide) rfl (Nat.le_of_ble_eq_true rfl) rfl (fun C F hr hnm hzl => ?_)
  subst hzl
  refine z_iconst F dX4_count_0 ?_
  refine z_istore_n F (lv' := [(1, .int (iZ 0)), (0, .ref u)]) dX4_count_1 (by decide) rfl ?_
  refine z_iconst F dX4_count_2 ?_
  refine z_istore_n F (lv' := [(2, .int (iZ 0)), (1, .int (iZ 0)), (0, .ref u)]) dX4_count_3 (by decide) rfl ?_
  have lp4 : ∀ (nn : Nat) (c0 : Int) (i : Int), (0 ≤ i ∧ i ≤ 64) → (0 ≤ c0 ∧ c0 ≤ i) → ((64 - i : Int).toNat < nn) → Go C { frames := 0, cells := 0, slots := 0, locals := 0 } D cls5 3 0 0 [oX4 u um ud, aZ K um 64 zm] 4 [(2, .int (iZ i)), (1, .int (iZ c0)), (0, .ref u)] [] := by
    intro nn
    induction nn with
    | zero => intro c0 i g4_0 g4_1 hmu; exact absurd hmu (Nat.not_lt_zero _)
    | succ nn ih =>
      intro c0 i g4_0 g4_1 hmu
      refine z_iload_n F 0 dX4_count_4 rfl ?_
      refine z_bipush F dX4_count_5 (by decide) ?_
      refine z_icmp_ge F 28 dX4_count_7 (by decide) (by omega) (fun c1 => ?_) (fun c1 => ?_)
      · refine z_iload_n F 1 dX4_count_28 rfl ?_
        exact z_iret F hr dX4_count_29 (by omega) ⟨c0, rfl, rfl, (by omega)⟩
      · refine z_aload_n F 2 dX4_count_10 rfl ?_
        refine z_get F 0 0 iX4 rfl rfl (by decide) t1_101 rfl dX4_count_11 ?_
        refine z_iload_n F 0 dX4_count_14 rfl ?_
        refine z_zald F 1 rfl rfl dX4_count_15 (by omega) (by omega) ?_
        have r2 : 0 ≤ zm i.toNat ∧ zm i.toNat ≤ 1 := h0 _
        refine z_if_eq F 22 dX4_count_16 (by decide) (by omega) (fun c3 => ?_) (fun c3 => ?_)
        · refine z_iinc F (lv' := [(2, .int (iZ (i + 1))), (1, .int (iZ c0)), (0, .ref u)]) 0 dX4_count_22 rfl (by decide) rfl ?_
          refine z_goto F 4 dX4_count_25 (by decide) ?_
          exact ih c0 (i + 1) (by omega) (by omega) (by omega)
        · refine z_iinc F (lv' := [(1, .int (iZ (c0 + 1))), (2, .int (iZ i)), (0, .ref u)]) 1 dX4_count_19 rfl (by decide) rfl ?_
          refine z_iinc F (lv' := [(2, .int (iZ (i + 1))), (1, .int (iZ (c0 + 1))), (0, .ref u)]) 1 dX4_count_22 rfl (by decide) rfl ?_
          refine z_goto F 4 dX4_count_25 (by decide) ?_
          exact ih (c0 + 1) (i + 1) (by omega) (by omega) (by omega)
  exact lp4 ((64 - 0 : Int).toNat + 1) 0 0 (by omega) (by omega) (Nat.lt_succ_self _)
set_option maxHeartbeats 4000000 in
set_option maxRecDepth 20000 in
theorem k_X4_put (l : Launch) (D : va_G) (K : KI) (u : Nat) (um : Nat) (ud : Nat) (zm : Nat → Int) (fu : Nat → Int64) (k : Int) (dg : Int64) (h0 : 0 ≤ k ∧ k ≤ 63) (h1 : rng 0 1 zm) : Ct lw_T l yX4_put cX4_put 4 none { frames := 0, cells := 0, slots := 0, locals := 0 } 0 0 D cls5 (TY K) [.ref u, .int (iZ k), .long dg] [oX4 u um ud, aZ K um 64 zm, aL K ud 64 fu] (fun v wo => ∃ (zm2 : Nat → Int), ∃ (fu2 : Nat → Int64), v = none ∧ wo = [oX4 u um ud, aZ K um 64 zm2, aL K ud 64 fu2] ∧ (rng 0 1 zm2)) := by
  refine ct_of (own := RX4) (lv := [(0, .ref u), (1, .int (iZ k)), (2, .long dg)]) (by decide) rfl (Nat.le_of_ble_eq_true rfl) rfl (fun C F hr hnm hzl => ?_)
  subst hzl
  refine z_aload_n F 0 dX4_put_0 rfl ?_
  refine z_get F 0 0 iX4 rfl rfl (by decide) t1_101 rfl dX4_put_1 ?_
  refine z_iload_n F 1 dX4_put_4 rfl ?_
  refine z_iconst F dX4_put_5 ?_
  refine z_zast F (ws' := [oX4 u um ud, aZ K um 64 (zu zm k.toNat (1 % 2)), aL K ud 64 fu]) 1 rfl rfl dX4_put_6 (by omega) (by omega) rfl ?_
  have r1 : rng 0 1 (zu zm k.toNat (1 % 2)) := rng_zu h1 (by omega)
  refine z_aload_n F 0 dX4_put_7 rfl ?_
  refine z_get F 0 1 iX4 rfl rfl (by decide) t1_102 rfl dX4_put_8 ?_
  refine z_iload_n F 1 dX4_put_11 rfl ?_
  refine z_lload_n F 2 dX4_put_12 rfl ?_
  refine z_last F (ws' := [oX4 u um ud, aZ K um 64 (zu zm k.toNat (1 % 2)), aL K ud 64 (vp_updL fu k.toNat dg)]) 2 rfl rfl dX4_put_13 (by omega) (by omega) rfl ?_
  exact z_vret F hr dX4_put_14 (by omega) ⟨(zu zm k.toNat (1 % 2)), (vp_updL fu k.toNat dg), rfl, rfl, r1⟩
set_option maxHeartbeats 4000000 in
set_option maxRecDepth 20000 in
theorem k_X4_forget (l : Launch) (D : va_G) (K : KI) (u : Nat) (um : Nat) (ud : Nat) (zm : Nat → Int) (k : Int) (h0 : 0 ≤ k ∧ k ≤ 63) (h1 : rng 0 1 zm) : Ct lw_T l yX4_forget cX4_forget 2 none { frames := 0, cells := 0, slots := 0, locals := 0 } 0 0 D cls5 (TY K) [.ref u, .int (iZ k)] [oX4 u um ud, aZ K um 64 zm] (fun v wo => ∃ (zm2 : Nat → Int), v = none ∧ wo = [oX4 u um ud, aZ K um 64 zm2] ∧ (rng 0 1 zm2)) := by
  refine ct_of (own := RX4) (lv := [(0, .ref u), (1, .int (iZ k))]) (by decide) rfl (Nat.le_of_ble_eq_true rfl) rfl (fun C F hr hnm hzl => ?_)
  subst hzl
  refine z_aload_n F 0 dX4_forget_0 rfl ?_
  refine z_get F 0 0 iX4 rfl rfl (by decide) t1_101 rfl dX4_forget_1 ?_
  refine z_iload_n F 1 dX4_forget_4 rfl ?_
  refine z_iconst F dX4_forget_5 ?_
  refine z_zast F (ws' := [oX4 u um ud, aZ K um 64 (zu zm k.toNat (0 % 2))]) 1 rfl rfl dX4_forget_6 (by omega) (by omega) rfl ?_
  have r1 : rng 0 1 (zu zm k.toNat (0 % 2)) := rng_zu h1 (by omega)
  exact z_vret F hr dX4_forget_7 (by omega) ⟨(zu zm k.toNat (0 % 2)), rfl, rfl, r1⟩
set_option maxHeartbeats 4000000 in
set_option maxRecDepth 20000 in
theorem k_X4_forgetAll (l : Launch) (D : va_G) (K : KI) (u : Nat) (um : Nat) (ud : Nat) (zm : Nat → Int) (h0 : rng 0 1 zm) : Ct lw_T l yX4_forgetAll cX4_forgetAll 2 none { frames := 0, cells := 0, slots := 0, locals := 0 } 0 0 D cls5 (TY K) [.ref u] [oX4 u um ud, aZ K um 64 zm] (fun v wo => ∃ (zm2 : Nat → Int), v = none ∧ wo = [oX4 u um ud, aZ K um 64 zm2] ∧ (rng 0 1 zm2)) := by
  refine ct_of (own := RX4) (lv := [(0, .ref u)]) (by decide) rfl (Nat.le_of_ble_eq_true rfl) rfl (fun C F hr hnm hzl => ?_)
  subst hzl
  refine z_iconst F dX4_forgetAll_0 ?_
  refine z_istore_n F (lv' := [(1, .int (iZ 0)), (0, .ref u)]) dX4_forgetAll_1 (by decide) rfl ?_
  have lp2 : ∀ (nn : Nat) (i : Int) (w : Nat → Int), (0 ≤ i ∧ i ≤ 64) → (rng 0 1 w) → ((64 - i : Int).toNat < nn) → Go C { frames := 0, cells := 0, slots := 0, locals := 0 } D cls5 2 0 0 [oX4 u um ud, aZ K um 64 w] 2 [(1, .int (iZ i)), (0, .ref u)] [] := by
    intro nn
    induction nn with
    | zero => intro i w g2_0 g2_1 hmu; exact absurd hmu (Nat.not_lt_zero _)
    | succ nn ih =>
      intro i w g2_0 g2_1 hmu
      refine z_iload_n F 0 dX4_forgetAll_2 rfl ?_
      refine z_bipush F dX4_forgetAll_3 (by decide) ?_
      refine z_icmp_ge F 21 dX4_forgetAll_5 (by decide) (by omega) (fun c1 => ?_) (fun c1 => ?_)
      · exact z_vret F hr dX4_forgetAll_21 (by omega) ⟨w, rfl, rfl, g2_1⟩
      · refine z_aload_n F 1 dX4_forgetAll_8 rfl ?_
        refine z_get F 0 0 iX4 rfl rfl (by decide) t1_101 rfl dX4_forgetAll_9 ?_
        refine z_iload_n F 0 dX4_forgetAll_12 rfl ?_
        refine z_iconst F dX4_forgetAll_13 ?_
        refine z_zast F (ws' := [oX4 u um ud, aZ K um 64 (zu w i.toNat (0 % 2))]) 1 rfl rfl dX4_forgetAll_14 (by omega) (by omega) rfl ?_
        have r2 : rng 0 1 (zu w i.toNat (0 % 2)) := rng_zu g2_1 (by omega)
        refine z_iinc F (lv' := [(1, .int (iZ (i + 1))), (0, .ref u)]) 0 dX4_forgetAll_15 rfl (by decide) rfl ?_
        refine z_goto F 2 dX4_forgetAll_18 (by decide) ?_
        exact ih (i + 1) (zu w i.toNat (0 % 2)) (by omega) r2 (by omega)
  exact lp2 ((64 - 0 : Int).toNat + 1) 0 zm (by omega) h0 (Nat.lt_succ_self _)
end
section
set_option maxHeartbeats 4000000 in
set_option maxRecDepth 20000 in
theorem k_X5_fitsEdition (l : Launch) (D : va_G) (K : KI) (x : Nat) (xd : Nat) (xt : Nat) (xu : Nat) (sa : Int) (ru : Int) (ar : Int) (sq : Int) (ge : Int) (ne : Int) (wa : Int) (fe : Int) (tk : Int) (cp : Int) (xc : Nat) (ed : Int64)  : Ct lw_T l yX5_fitsEdition cX5_fitsEdition 3 (some .boolean) { frames := 0, cells := 0, slots := 0, locals := 0 } 0 0 D cls5 (TY K) [.ref x, .long ed] [oX5 x xd xt xu sa ru ar sq ge ne wa fe tk cp xc] (fun v wo => ∃ (r : Int), v = some (.int (iZ r)) ∧ wo = [oX5 x xd xt xu sa ru ar sq ge ne wa fe tk cp xc] ∧ (r = 0 ∨ r = 1)) := by
  refine ct_of (own := RX5) (lv := [(0, .ref x), (1, .long ed)]) (by decide) rfl (Nat.le_of_ble_eq_true rfl) rfl (fun C F hr hnm hzl => ?_)
  subst hzl
  refine z_lload_n F 1 dX5_fitsEdition_0 rfl ?_
  refine z_aload_n F 0 dX5_fitsEdition_1 rfl ?_
  refine z_get F 0 8 iX5 rfl rfl (by decide) t1_117 rfl dX5_fitsEdition_2 ?_
  refine z_i2l F dX5_fitsEdition_5 ?_
  refine z_lcmp F dX5_fitsEdition_6 (fun b1 rb1 eb1 => ?_)
  refine z_if_eq F 22 dX5_fitsEdition_7 (by decide) (by omega) (fun c2 => ?_) (fun c2 => ?_)
  · refine z_iconst F dX5_fitsEdition_22 ?_
    refine z_goto F 27 dX5_fitsEdition_23 (by decide) ?_
    exact z_zret F hr (by decide) dX5_fitsEdition_27 (by omega) ⟨1, rfl, rfl, (by omega)⟩
  · refine z_lload_n F 1 dX5_fitsEdition_10 rfl ?_
    refine z_aload_n F 0 dX5_fitsEdition_11 rfl ?_
    refine z_get F 0 8 iX5 rfl rfl (by decide) t1_117 rfl dX5_fitsEdition_12 ?_
    refine z_iconst F dX5_fitsEdition_15 ?_
    refine z_isub F dX5_fitsEdition_16 ?_
    refine z_i2l F dX5_fitsEdition_17 ?_
    refine z_lcmp F dX5_fitsEdition_18 (fun b3 rb3 eb3 => ?_)
    refine z_if_ne F 26 dX5_fitsEdition_19 (by decide) (by omega) (fun c4 => ?_) (fun c4 => ?_)
    · refine z_iconst F dX5_fitsEdition_26 ?_
      exact z_zret F hr (by decide) dX5_fitsEdition_27 (by omega) ⟨0, rfl, rfl, (by omega)⟩
    · refine z_iconst F dX5_fitsEdition_22 ?_
      refine z_goto F 27 dX5_fitsEdition_23 (by decide) ?_
      exact z_zret F hr (by decide) dX5_fitsEdition_27 (by omega) ⟨1, rfl, rfl, (by omega)⟩
set_option maxHeartbeats 4000000 in
set_option maxRecDepth 20000 in
theorem k_X5_writeRow (l : Launch) (D : va_G) (K : KI) (x : Nat) (sa : Int) (ru : Int) (ar : Int) (sq : Int) (ge : Int) (ne : Int) (wa : Int) (fe : Int) (tk : Int) (cp : Int) (xc : Nat) (u : Nat) (d : Nat) (sc : Int) (db : Nat) (dq : Nat) (dt : Nat) (wc : Int) (nb : Nat) (zb : Nat → Int) (zq : Nat → Int) (zt : Nat → Int) (y : Nat) (yk : Nat) (yn : Nat) (yc : Nat) (ya : Nat) (yd : Nat) (yl : Nat) (lp : Int) (re : Int) (wp : Int) (lw : Int) (np : Nat) (na : Nat) (zk : Nat → Int) (zn : Nat → Int) (zc : Nat → Int) (za : Nat → Int) (fd : Nat → Int64) (pl : Int) (oa : Int) (tp : Int) (h0 : 4 ≤ sc ∧ sc ≤ 40 ∧ (nb : Int) = 512 * sc) (h1 : 1 ≤ sa ∧ 2 * sa ≤ sc - 2 ∧ (np : Int) = 16 * sa ∧ (na : Int) = 6 * np) (h2 : 0 ≤ wc ∧ wc ≤ 64) (h3 : rng (-128) 127 zb) (h4 : rng (-128) 127 zq) (h5 : rng 0 (sc-1) zt) (h6 : 0 ≤ pl ∧ pl ≤ np - 1 ∧ 0 ≤ tp ∧ tp ≤ np - 1) (h7 : oa = 0 ∨ oa = 1) (h8 : rng 0 6 zc) (h9 : rng (-128) 127 za) : Ct lw_T l yX5_writeRow cX5_writeRow 5 none { frames := 3, cells := 0, slots := 0, locals := 88 } 0 0 D cls5 (TY K) [.ref x, .int (iZ pl), .int (iZ oa), .int (iZ tp)] [oX5 x d y u sa ru ar sq ge ne wa fe tk cp xc, oX0 d sc db dq dt wc, aB K db nb zb, aB K dq 32768 zq, aI K dt 64 zt, oX3 y yk yn yc ya yd yl lp re wp lw, aI K yk np zk, aI K yn np zn, aI K yc np zc, aI K ya na za, aL K yd np fd] (fun v wo => ∃ (wc2 : Int), ∃ (zb2 : Nat → Int), ∃ (zq2 : Nat → Int), ∃ (zt2 : Nat → Int), v = none ∧ wo = [oX5 x d y u sa ru ar sq ge ne wa fe tk cp xc, oX0 d sc db dq dt wc2, aB K db nb zb2, aB K dq 32768 zq2, aI K dt 64 zt2, oX3 y yk yn yc ya yd yl lp re wp lw, aI K yk np zk, aI K yn np zn, aI K yc np zc, aI K ya na za, aL K yd np fd] ∧ (0 ≤ wc2 ∧ wc2 ≤ 64) ∧ (rng (-128) 127 zb2) ∧ (rng (-128) 127 zq2) ∧ (rng 0 (sc-1) zt2)) := by
  refine ct_of (own := RX5) (lv := [(0, .ref x), (1, .int (iZ pl)), (2, .int (iZ oa)), (3, .int (iZ tp))]) (by decide) rfl (Nat.le_of_ble_eq_true rfl) rfl (fun C F hr hnm hzl => ?_)
  subst hzl
  refine z_aload_n F 0 dX5_writeRow_0 rfl ?_
  refine z_get F 0 0 iX5 rfl rfl (by decide) t1_109 rfl dX5_writeRow_1 ?_
  refine z_aload_n F 0 dX5_writeRow_4 rfl ?_
  refine z_iload_n F 2 dX5_writeRow_5 rfl ?_
  refine z_callV F lw_good (k_X5_firstSector _ D K x d y u sa ru ar sq ge ne wa fe tk cp xc oa h7) t1_211 t1_1 t1_208 t1_210 (q := (RX5, TX5, 14)) ts_5 ⟨rfl, rfl⟩ ndX5_firstSector ⟨Nat.le_of_ble_eq_true rfl, Nat.le_of_ble_eq_true rfl⟩ 0 rfl rfl (rest := [.ref d]) rfl (Nat.le_of_ble_eq_true rfl) dX5_writeRow_6 ⟨(show 0 + 0 ≤ 0 by omega), (show 0 + 0 ≤ 0 by omega)⟩ (wr := [oX0 d sc db dq dt wc, aB K db nb zb, aB K dq 32768 zq, aI K dt 64 zt, oX3 y yk yn yc ya yd yl lp re wp lw, aI K yk np zk, aI K yn np zn, aI K yc np zc, aI K ya na za, aL K yd np fd]) ([0] : List Nat) ([1, 2, 3, 4, 5, 6, 7, 8, 9, 10] : List Nat) rfl rfl rfl rfl (by decide) (fun v wo hp => ?_)
  obtain ⟨r_1, rfl, rfl, f2⟩ := hp
  refine z_re F (ws' := [oX5 x d y u sa ru ar sq ge ne wa fe tk cp xc, oX0 d sc db dq dt wc, aB K db nb zb, aB K dq 32768 zq, aI K dt 64 zt, oX3 y yk yn yc ya yd yl lp re wp lw, aI K yk np zk, aI K yn np zn, aI K yc np zc, aI K ya na za, aL K yd np fd]) (st' := [.int (iZ r_1), .ref d]) ([10, 0, 1, 2, 3, 4, 5, 6, 7, 8, 9] : List Nat) rfl rfl rfl ?_
  refine z_iload_n F 3 dX5_writeRow_9 rfl ?_
  refine z_bipush F dX5_writeRow_10 (by decide) ?_
  refine z_idiv F dX5_writeRow_12 (by omega) (by omega) ?_
  refine z_nm F (fun q3 eq3 => ?_)
  have hq3 := dv_spec tp 16 (by omega)
  rw [← eq3] at hq3
  refine z_iadd F dX5_writeRow_13 ?_
  refine z_callV F lw_good (k_X0_waitAsItWillBe _ D K d sc db dq dt wc nb zb zq zt (r_1 + q3) h0 h3 h4 h5 h2 (by omega)) t2_65 t1_3 t2_62 t2_63 (q := (RX0, TX0, 5)) t2_64 ⟨rfl, rfl⟩ ndX0_waitAsItWillBe ⟨Nat.le_of_ble_eq_true rfl, Nat.le_of_ble_eq_true rfl⟩ 0 rfl rfl (rest := []) rfl (Nat.le_of_ble_eq_true rfl) dX5_writeRow_14 ⟨(show 0 + 0 ≤ 0 by omega), (show 0 + 0 ≤ 0 by omega)⟩ (wr := [oX5 x d y u sa ru ar sq ge ne wa fe tk cp xc, oX3 y yk yn yc ya yd yl lp re wp lw, aI K yk np zk, aI K yn np zn, aI K yc np zc, aI K ya na za, aL K yd np fd]) ([1, 2, 3, 4] : List Nat) ([0, 5, 6, 7, 8, 9, 10] : List Nat) rfl rfl rfl rfl (by decide) (fun v wo hp => ?_)
  obtain ⟨r_4, wc2_5, zb2_6, zq2_7, zt2_8, rfl, rfl, f9, f10, f11, f12, f13⟩ := hp
  refine z_re F (ws' := [oX5 x d y u sa ru ar sq ge ne wa fe tk cp xc, oX0 d sc db dq dt wc2_5, aB K db nb zb2_6, aB K dq 32768 zq2_7, aI K dt 64 zt2_8, oX3 y yk yn yc ya yd yl lp re wp lw, aI K yk np zk, aI K yn np zn, aI K yc np zc, aI K ya na za, aL K yd np fd]) (st' := [.int (iZ r_4)]) ([0, 7, 8, 9, 10, 1, 2, 3, 4, 5, 6] : List Nat) rfl rfl rfl ?_
  refine z_istore F (lv' := [(4, .int (iZ r_4)), (0, .ref x), (1, .int (iZ pl)), (2, .int (iZ oa)), (3, .int (iZ tp))]) dX5_writeRow_17 (by decide) rfl ?_
  refine z_aload_n F 1 dX5_writeRow_19 rfl ?_
  refine z_get F 0 1 iX5 rfl rfl (by decide) t1_110 rfl dX5_writeRow_20 ?_
  refine z_iload_n F 2 dX5_writeRow_23 rfl ?_
  refine z_aload_n F 1 dX5_writeRow_24 rfl ?_
  refine z_get F 0 0 iX5 rfl rfl (by decide) t1_109 rfl dX5_writeRow_25 ?_
  refine z_get F 1 2 iX0 rfl rfl (by decide) t1_41 rfl dX5_writeRow_28 ?_
  refine z_iload F 0 dX5_writeRow_31 rfl ?_
  refine z_iload_n F 4 dX5_writeRow_33 rfl ?_
  refine z_bipush F dX5_writeRow_34 (by decide) ?_
  refine z_irem F dX5_writeRow_36 (by omega) (by omega) ?_
  refine z_nm F (fun q14 eq14 => ?_)
  have hq14 := md_spec tp 16 (by omega)
  rw [← eq14] at hq14
  refine z_bipush F dX5_writeRow_37 (by decide) ?_
  refine z_imul F dX5_writeRow_39 ?_
  refine z_iadd F dX5_writeRow_40 ?_
  refine z_iload_n F 4 dX5_writeRow_41 rfl ?_
  refine z_callV F lw_good (k_X3_write _ D K y yk yn yc ya yd yl lp re wp lw np na zk zn zc za fd dq 32768 zq2_7 pl (r_4 + (q14 * 32)) tp (by omega) (by omega) (by omega) f12 h8 h9) t2_73 t1_4 t2_70 t2_71 (q := (RX3, TX3, 10)) t2_72 ⟨rfl, rfl⟩ ndX3_write ⟨Nat.le_of_ble_eq_true rfl, Nat.le_of_ble_eq_true rfl⟩ 0 rfl rfl (rest := []) rfl (Nat.le_of_ble_eq_true rfl) dX5_writeRow_42 ⟨(show 0 + 0 ≤ 0 by omega), (show 0 + 0 ≤ 0 by omega)⟩ (wr := [oX5 x d y u sa ru ar sq ge ne wa fe tk cp xc, oX0 d sc db dq dt wc2_5, aB K db nb zb2_6, aI K dt 64 zt2_8]) ([5, 6, 7, 8, 9, 10, 3] : List Nat) ([0, 1, 2, 4] : List Nat) rfl rfl rfl rfl (by decide) (fun v wo hp => ?_)
  obtain ⟨z2_15, rfl, rfl, f16⟩ := hp
  refine z_re F (ws' := [oX5 x d y u sa ru ar sq ge ne wa fe tk cp xc, oX0 d sc db dq dt wc2_5, aB K db nb zb2_6, aB K dq 32768 z2_15, aI K dt 64 zt2_8, oX3 y yk yn yc ya yd yl lp re wp lw, aI K yk np zk, aI K yn np zn, aI K yc np zc, aI K ya na za, aL K yd np fd]) (st' := []) ([0, 1, 2, 10, 3, 4, 5, 6, 7, 8, 9] : List Nat) rfl rfl rfl ?_
  exact z_vret F hr dX5_writeRow_45 (by omega) ⟨wc2_5, zb2_6, z2_15, zt2_8, rfl, rfl, f10, f11, f16, f13⟩
set_option maxHeartbeats 4000000 in
set_option maxRecDepth 20000 in
theorem k_X5_keep (l : Launch) (D : va_G) (K : KI) (x : Nat) (sa : Int) (ru : Int) (ar : Int) (sq : Int) (ge : Int) (ne : Int) (wa : Int) (fe : Int) (tk : Int) (cp : Int) (xc : Nat) (u : Nat) (d : Nat) (sc : Int) (db : Nat) (dq : Nat) (dt : Nat) (wc : Int) (nb : Nat) (zb : Nat → Int) (zq : Nat → Int) (zt : Nat → Int) (y : Nat) (yk : Nat) (yn : Nat) (yc : Nat) (ya : Nat) (yd : Nat) (yl : Nat) (lp : Int) (re : Int) (wp : Int) (lw : Int) (np : Nat) (na : Nat) (zk : Nat → Int) (zn : Nat → Int) (zc : Nat → Int) (za : Nat → Int) (fd : Nat → Int64) (zl : Nat → Int) (kd : Int) (nm : Int) (dg : Int64) (h0 : 4 ≤ sc ∧ sc ≤ 40 ∧ (nb : Int) = 512 * sc) (h1 : 1 ≤ sa ∧ 2 * sa ≤ sc - 2 ∧ (np : Int) = 16 * sa ∧ (na : Int) = 6 * np) (h2 : 0 ≤ wc ∧ wc ≤ 64) (h3 : rng (-128) 127 zb) (h4 : rng (-128) 127 zq) (h5 : rng 0 (sc-1) zt) (h6 : 0 ≤ re ∧ re ≤ np) (h7 : -1 ≤ lp ∧ lp ≤ np - 1 ∧ 0 ≤ wp ∧ wp ≤ re ∧ -1 ≤ lw ∧ lw ≤ np - 1) (h8 : rng 0 3 zk) (h9 : rng (-128) 127 zn) (h10 : nmOk zk zn) (h11 : rng 0 6 zc) (h12 : rng (-128) 127 za) (h13 : akOk zc za) (h14 : rng (-1) (np-1) zl) (h15 : 0 ≤ ar ∧ ar ≤ 1) (h16 : 1 ≤ kd ∧ kd ≤ 3 ∧ 0 ≤ nm ∧ nm ≤ 63) : Ct lw_T l yX5_keep cX5_keep 6 (some .int) { frames := 4, cells := 0, slots := 0, locals := 112 } 0 0 D cls5 (TY K) [.ref x, .int (iZ kd), .int (iZ nm), .long dg] [oX5 x d y u sa ru ar sq ge ne wa fe tk cp xc, oX0 d sc db dq dt wc, aB K db nb zb, aB K dq 32768 zq, aI K dt 64 zt, oX3 y yk yn yc ya yd yl lp re wp lw, aI K yk np zk, aI K yn np zn, aI K yc np zc, aI K ya na za, aL K yd np fd, aI K yl 64 zl] (fun v wo => ∃ (r : Int), ∃ (wc2 : Int), ∃ (zb2 : Nat → Int), ∃ (zq2 : Nat → Int), ∃ (zt2 : Nat → Int), ∃ (lp2 : Int), ∃ (re2 : Int), ∃ (wp2 : Int), ∃ (lw2 : Int), ∃ (zk2 : Nat → Int), ∃ (zn2 : Nat → Int), ∃ (zc2 : Nat → Int), ∃ (fd2 : Nat → Int64), ∃ (zl2 : Nat → Int), v = some (.int (iZ r)) ∧ wo = [oX5 x d y u sa ru ar sq ge ne wa fe tk cp xc, oX0 d sc db dq dt wc2, aB K db nb zb2, aB K dq 32768 zq2, aI K dt 64 zt2, oX3 y yk yn yc ya yd yl lp2 re2 wp2 lw2, aI K yk np zk2, aI K yn np zn2, aI K yc np zc2, aI K ya na za, aL K yd np fd2, aI K yl 64 zl2] ∧ (-1 ≤ r ∧ r ≤ np - 1) ∧ (0 ≤ wc2 ∧ wc2 ≤ 64) ∧ (rng (-128) 127 zb2) ∧ (rng (-128) 127 zq2) ∧ (rng 0 (sc-1) zt2) ∧ (re ≤ re2) ∧ (0 ≤ re2 ∧ re2 ≤ np) ∧ (-1 ≤ lp2 ∧ lp2 ≤ np - 1 ∧ 0 ≤ wp2 ∧ wp2 ≤ re2 ∧ -1 ≤ lw2 ∧ lw2 ≤ np - 1) ∧ (rng 0 3 zk2) ∧ (rng (-128) 127 zn2) ∧ (nmOk zk2 zn2) ∧ (rng 0 6 zc2) ∧ (akOk zc2 za) ∧ (rng (-1) (np-1) zl2)) := by
  refine ct_of (own := RX5) (lv := [(0, .ref x), (1, .int (iZ kd)), (2, .int (iZ nm)), (3, .long dg)]) (by decide) rfl (Nat.le_of_ble_eq_true rfl) rfl (fun C F hr hnm hzl => ?_)
  subst hzl
  refine z_aload_n F 0 dX5_keep_0 rfl ?_
  refine z_get F 0 1 iX5 rfl rfl (by decide) t1_110 rfl dX5_keep_1 ?_
  refine z_callV F lw_good (k_X3_isFull _ D K y yk yn yc ya yd yl lp re wp lw np zk (by omega) h6) t2_53 t1_4 t2_50 t2_51 (q := (RX3, TX3, 10)) t2_52 ⟨rfl, rfl⟩ ndX3_isFull ⟨Nat.le_of_ble_eq_true rfl, Nat.le_of_ble_eq_true rfl⟩ 0 rfl rfl (rest := []) rfl (Nat.le_of_ble_eq_true rfl) dX5_keep_4 ⟨(show 0 + 0 ≤ 0 by omega), (show 0 + 0 ≤ 0 by omega)⟩ (wr := [oX5 x d y u sa ru ar sq ge ne wa fe tk cp xc, oX0 d sc db dq dt wc, aB K db nb zb, aB K dq 32768 zq, aI K dt 64 zt, aI K yn np zn, aI K yc np zc, aI K ya na za, aL K yd np fd, aI K yl 64 zl]) ([5, 6] : List Nat) ([0, 1, 2, 3, 4, 7, 8, 9, 10, 11] : List Nat) rfl rfl rfl rfl (by decide) (fun v wo hp => ?_)
  obtain ⟨r_1, rfl, rfl, f2⟩ := hp
  refine z_re F (ws' := [oX5 x d y u sa ru ar sq ge ne wa fe tk cp xc, oX0 d sc db dq dt wc, aB K db nb zb, aB K dq 32768 zq, aI K dt 64 zt, oX3 y yk yn yc ya yd yl lp re wp lw, aI K yk np zk, aI K yn np zn, aI K yc np zc, aI K ya na za, aL K yd np fd, aI K yl 64 zl]) (st' := [.int (iZ r_1)]) ([0, 1, 2, 3, 4, 10, 11, 5, 6, 7, 8, 9] : List Nat) rfl rfl rfl ?_
  refine z_if_eq F 12 dX5_keep_7 (by decide) (by omega) (fun c3 => ?_) (fun c3 => ?_)
  · refine z_aload_n F 0 dX5_keep_12 rfl ?_
    refine z_get F 0 1 iX5 rfl rfl (by decide) t1_110 rfl dX5_keep_13 ?_
    refine z_iload_n F 1 dX5_keep_16 rfl ?_
    refine z_iload_n F 2 dX5_keep_17 rfl ?_
    refine z_lload_n F 3 dX5_keep_18 rfl ?_
    refine z_callV F lw_good (k_X3_append _ D K y yk yn yc ya yd yl lp re wp lw np na zk zn zc za fd zl kd nm dg (by omega) (by omega) h7 h8 h9 h10 h11 h12 h13 h14 h16) t2_57 t1_4 t2_54 t2_55 (q := (RX3, TX3, 10)) t2_56 ⟨rfl, rfl⟩ ndX3_append ⟨Nat.le_of_ble_eq_true rfl, Nat.le_of_ble_eq_true rfl⟩ 0 rfl rfl (rest := []) rfl (Nat.le_of_ble_eq_true rfl) dX5_keep_19 ⟨(show 0 + 0 ≤ 0 by omega), (show 0 + 0 ≤ 0 by omega)⟩ (wr := [oX5 x d y u sa ru ar sq ge ne wa fe tk cp xc, oX0 d sc db dq dt wc, aB K db nb zb, aB K dq 32768 zq, aI K dt 64 zt]) ([5, 6, 7, 8, 9, 10, 11] : List Nat) ([0, 1, 2, 3, 4] : List Nat) rfl rfl rfl rfl (by decide) (fun v wo hp => ?_)
    obtain ⟨lp2_4, wp2_5, lw2_6, zk2_7, zn2_8, zc2_9, fd2_10, zl2_11, rfl, rfl, f12, f13, f14, f15, f16, f17, f18⟩ := hp
    refine z_re F (ws' := [oX5 x d y u sa ru ar sq ge ne wa fe tk cp xc, oX0 d sc db dq dt wc, aB K db nb zb, aB K dq 32768 zq, aI K dt 64 zt, oX3 y yk yn yc ya yd yl lp2_4 (re + 1) wp2_5 lw2_6, aI K yk np zk2_7, aI K yn np zn2_8, aI K yc np zc2_9, aI K ya na za, aL K yd np fd2_10, aI K yl 64 zl2_11]) (st' := [.int (iZ re)]) ([0, 1, 2, 3, 4, 5, 6, 7, 8, 9, 10, 11] : List Nat) rfl rfl rfl ?_
    refine z_istore F (lv' := [(5, .int (iZ re)), (0, .ref x), (1, .int (iZ kd)), (2, .int (iZ nm)), (3, .long dg)]) dX5_keep_22 (by decide) rfl ?_
    refine z_aload_n F 1 dX5_keep_24 rfl ?_
    refine z_iload F 0 dX5_keep_25 rfl ?_
    refine z_aload_n F 1 dX5_keep_27 rfl ?_
    refine z_get F 0 5 iX5 rfl rfl (by decide) t1_114 rfl dX5_keep_28 ?_
    refine z_iload F 0 dX5_keep_31 rfl ?_
    refine z_callV F lw_good (k_X5_writeRow _ D K x sa ru ar sq ge ne wa fe tk cp xc u d sc db dq dt wc nb zb zq zt y yk yn yc ya yd yl lp2_4 (re + 1) wp2_5 lw2_6 np na zk2_7 zn2_8 zc2_9 za fd2_10 re ar re h0 h1 h2 h3 h4 h5 (by omega) (by omega) f16 h12) t2_61 t1_1 t2_58 t2_60 (q := (RX5, TX5, 14)) ts_11 ⟨rfl, rfl⟩ ndX5_writeRow ⟨Nat.le_of_ble_eq_true rfl, Nat.le_of_ble_eq_true rfl⟩ 0 rfl rfl (rest := []) rfl (Nat.le_of_ble_eq_true rfl) dX5_keep_33 ⟨(show 0 + 0 ≤ 0 by omega), (show 0 + 0 ≤ 0 by omega)⟩ (wr := [aI K yl 64 zl2_11]) ([0, 1, 2, 3, 4, 5, 6, 7, 8, 9, 10] : List Nat) ([11] : List Nat) rfl rfl rfl rfl (by decide) (fun v wo hp => ?_)
    obtain ⟨wc2_19, zb2_20, zq2_21, zt2_22, rfl, rfl, f23, f24, f25, f26⟩ := hp
    refine z_re F (ws' := [oX5 x d y u sa ru ar sq ge ne wa fe tk cp xc, oX0 d sc db dq dt wc2_19, aB K db nb zb2_20, aB K dq 32768 zq2_21, aI K dt 64 zt2_22, oX3 y yk yn yc ya yd yl lp2_4 (re + 1) wp2_5 lw2_6, aI K yk np zk2_7, aI K yn np zn2_8, aI K yc np zc2_9, aI K ya na za, aL K yd np fd2_10, aI K yl 64 zl2_11]) (st' := []) ([1, 2, 3, 4, 5, 6, 7, 8, 9, 10, 11, 0] : List Nat) rfl rfl rfl ?_
    refine z_iload F 0 dX5_keep_36 rfl ?_
    exact z_iret F hr dX5_keep_38 (by omega) ⟨re, wc2_19, zb2_20, zq2_21, zt2_22, lp2_4, (re + 1), wp2_5, lw2_6, zk2_7, zn2_8, zc2_9, fd2_10, zl2_11, rfl, rfl, (by omega), f23, f24, f25, f26, (by omega), (by omega), (by omega), f13, f14, f15, f16, f17, f18⟩
  · refine z_iconst F dX5_keep_10 ?_
    exact z_iret F hr dX5_keep_11 (by omega) ⟨(-1), wc, zb, zq, zt, lp, re, wp, lw, zk, zn, zc, fd, zl, rfl, rfl, (by omega), h2, h3, h4, h5, (by omega), h6, h7, h8, h9, h10, h11, h13, h14⟩
set_option maxHeartbeats 4000000 in
set_option maxRecDepth 20000 in
theorem k_X5_allAskedAhead (l : Launch) (D : va_G) (K : KI) (x : Nat) (sa : Int) (ru : Int) (ar : Int) (sq : Int) (ge : Int) (ne : Int) (wa : Int) (fe : Int) (tk : Int) (cp : Int) (xc : Nat) (d : Nat) (y : Nat) (yk : Nat) (yn : Nat) (yc : Nat) (ya : Nat) (yd : Nat) (yl : Nat) (lp : Int) (re : Int) (wp : Int) (lw : Int) (np : Nat) (na : Nat) (zc : Nat → Int) (za : Nat → Int) (zl : Nat → Int) (u : Nat) (um : Nat) (ud : Nat) (zm : Nat → Int) (pl : Int) (h0 : 1 ≤ np ∧ np ≤ 304 ∧ (na : Int) = 6 * np) (h1 : 0 ≤ pl ∧ pl ≤ np - 1) (h2 : rng 0 6 zc) (h3 : rng (-128) 127 za) (h4 : akOk zc za) (h5 : rng (-1) (np-1) zl) (h6 : rng 0 1 zm) : Ct lw_T l yX5_allAskedAhead cX5_allAskedAhead 6 (some .boolean) { frames := 1, cells := 0, slots := 0, locals := 22 } 0 0 D cls5 (TY K) [.ref x, .int (iZ pl)] [oX5 x d y u sa ru ar sq ge ne wa fe tk cp xc, oX3 y yk yn yc ya yd yl lp re wp lw, aI K yc np zc, aI K ya na za, aI K yl 64 zl, oX4 u um ud, aZ K um 64 zm] (fun v wo => ∃ (r : Int), v = some (.int (iZ r)) ∧ wo = [oX5 x d y u sa ru ar sq ge ne wa fe tk cp xc, oX3 y yk yn yc ya yd yl lp re wp lw, aI K yc np zc, aI K ya na za, aI K yl 64 zl, oX4 u um ud, aZ K um 64 zm] ∧ (r = 0 ∨ r = 1)) := by
  refine ct_of (own := RX5) (lv := [(0, .ref x), (1, .int (iZ pl))]) (by decide) rfl (Nat.le_of_ble_eq_true rfl) rfl (fun C F hr hnm hzl => ?_)
  subst hzl
  refine z_aload_n F 0 dX5_allAskedAhead_0 rfl ?_
  refine z_get F 0 1 iX5 rfl rfl (by decide) t1_110 rfl dX5_allAskedAhead_1 ?_
  refine z_iload_n F 1 dX5_allAskedAhead_4 rfl ?_
  refine z_callV F lw_good (k_X3_askCount _ D K y yk yn yc ya yd yl lp re wp lw np zc pl (by omega)) t2_99 t1_4 t2_96 t2_97 (q := (RX3, TX3, 10)) t2_98 ⟨rfl, rfl⟩ ndX3_askCount ⟨Nat.le_of_ble_eq_true rfl, Nat.le_of_ble_eq_true rfl⟩ 0 rfl rfl (rest := []) rfl (Nat.le_of_ble_eq_true rfl) dX5_allAskedAhead_5 ⟨(show 0 + 0 ≤ 0 by omega), (show 0 + 0 ≤ 0 by omega)⟩ (wr := [oX5 x d y u sa ru ar sq ge ne wa fe tk cp xc, aI K ya na za, aI K yl 64 zl, oX4 u um ud, aZ K um 64 zm]) ([1, 2] : List Nat) ([0, 3, 4, 5, 6] : List Nat) rfl rfl rfl rfl (by decide) (fun v wo hp => ?_)
  obtain ⟨rfl, rfl⟩ := hp
  refine z_re F (ws' := [oX5 x d y u sa ru ar sq ge ne wa fe tk cp xc, oX3 y yk yn yc ya yd yl lp re wp lw, aI K yc np zc, aI K ya na za, aI K yl 64 zl, oX4 u um ud, aZ K um 64 zm]) (st' := [.int (iZ (zc pl.toNat))]) ([0, 5, 6, 1, 2, 3, 4] : List Nat) rfl rfl rfl ?_
  refine z_istore_n F (lv' := [(2, .int (iZ (zc pl.toNat))), (0, .ref x), (1, .int (iZ pl))]) dX5_allAskedAhead_8 (by decide) rfl ?_
  have hcr := h2 pl.toNat
  refine z_iconst F dX5_allAskedAhead_9 ?_
  refine z_istore_n F (lv' := [(3, .int (iZ 0)), (2, .int (iZ (zc pl.toNat))), (0, .ref x), (1, .int (iZ pl))]) dX5_allAskedAhead_10 (by decide) rfl ?_
  have lp11 : ∀ (nn : Nat) (i : Int), (0 ≤ i ∧ i ≤ zc pl.toNat) → ((zc pl.toNat - i : Int).toNat < nn) → Go C { frames := 1, cells := 0, slots := 0, locals := 22 } D cls5 6 0 0 [oX5 x d y u sa ru ar sq ge ne wa fe tk cp xc, oX3 y yk yn yc ya yd yl lp re wp lw, aI K yc np zc, aI K ya na za, aI K yl 64 zl, oX4 u um ud, aZ K um 64 zm] 11 [(3, .int (iZ i)), (2, .int (iZ (zc pl.toNat))), (0, .ref x), (1, .int (iZ pl))] [] := by
    intro nn
    induction nn with
    | zero => intro i g11_0 hmu; exact absurd hmu (Nat.not_lt_zero _)
    | succ nn ih =>
      intro i g11_0 hmu
      refine z_iload_n F 0 dX5_allAskedAhead_11 rfl ?_
      refine z_iload_n F 1 dX5_allAskedAhead_12 rfl ?_
      refine z_icmp_ge F 70 dX5_allAskedAhead_13 (by decide) (by omega) (fun c1 => ?_) (fun c1 => ?_)
      · refine z_iconst F dX5_allAskedAhead_70 ?_
        exact z_zret F hr (by decide) dX5_allAskedAhead_71 (by omega) ⟨1, rfl, rfl, (by omega)⟩
      · refine z_aload_n F 2 dX5_allAskedAhead_16 rfl ?_
        refine z_get F 0 1 iX5 rfl rfl (by decide) t1_110 rfl dX5_allAskedAhead_17 ?_
        refine z_iload_n F 3 dX5_allAskedAhead_20 rfl ?_
        refine z_iload_n F 0 dX5_allAskedAhead_21 rfl ?_
        refine z_callV F lw_good (k_X3_askAt _ D K y yk yn yc ya yd yl lp re wp lw na za pl i (by omega)) t2_77 t1_4 t2_173 t2_75 (q := (RX3, TX3, 10)) t2_76 ⟨rfl, rfl⟩ ndX3_askAt ⟨Nat.le_of_ble_eq_true rfl, Nat.le_of_ble_eq_true rfl⟩ 0 rfl rfl (rest := []) rfl (Nat.le_of_ble_eq_true rfl) dX5_allAskedAhead_22 ⟨(show 0 + 0 ≤ 0 by omega), (show 0 + 0 ≤ 0 by omega)⟩ (wr := [oX5 x d y u sa ru ar sq ge ne wa fe tk cp xc, aI K yc np zc, aI K yl 64 zl, oX4 u um ud, aZ K um 64 zm]) ([1, 3] : List Nat) ([0, 2, 4, 5, 6] : List Nat) rfl rfl rfl rfl (by decide) (fun v wo hp => ?_)
        obtain ⟨rfl, rfl⟩ := hp
        refine z_re F (ws' := [oX5 x d y u sa ru ar sq ge ne wa fe tk cp xc, oX3 y yk yn yc ya yd yl lp re wp lw, aI K yc np zc, aI K ya na za, aI K yl 64 zl, oX4 u um ud, aZ K um 64 zm]) (st' := [.int (iZ (za ((pl * 6) + i).toNat))]) ([0, 5, 1, 6, 2, 3, 4] : List Nat) rfl rfl rfl ?_
        have hka := akOk_at (p := pl) (i := i) h4 (by omega) (by omega) (by omega)
        refine z_istore F (lv' := [(4, .int (iZ (za ((pl * 6) + i).toNat))), (3, .int (iZ i)), (2, .int (iZ (zc pl.toNat))), (0, .ref x), (1, .int (iZ pl))]) dX5_allAskedAhead_25 (by decide) rfl ?_
        refine z_aload_n F 3 dX5_allAskedAhead_27 rfl ?_
        refine z_get F 0 1 iX5 rfl rfl (by decide) t1_110 rfl dX5_allAskedAhead_28 ?_
        refine z_iload F 0 dX5_allAskedAhead_31 rfl ?_
        refine z_callV F lw_good (k_X3_latest _ D K y yk yn yc ya yd yl lp re wp lw zl (za ((pl * 6) + i).toNat) (by omega)) t2_164 t1_4 t2_161 t2_162 (q := (RX3, TX3, 10)) t2_163 ⟨rfl, rfl⟩ ndX3_latest ⟨Nat.le_of_ble_eq_true rfl, Nat.le_of_ble_eq_true rfl⟩ 0 rfl rfl (rest := []) rfl (Nat.le_of_ble_eq_true rfl) dX5_allAskedAhead_33 ⟨(show 0 + 0 ≤ 0 by omega), (show 0 + 0 ≤ 0 by omega)⟩ (wr := [oX5 x d y u sa ru ar sq ge ne wa fe tk cp xc, aI K yc np zc, aI K ya na za, oX4 u um ud, aZ K um 64 zm]) ([1, 4] : List Nat) ([0, 2, 3, 5, 6] : List Nat) rfl rfl rfl rfl (by decide) (fun v wo hp => ?_)
        obtain ⟨rfl, rfl⟩ := hp
        refine z_re F (ws' := [oX5 x d y u sa ru ar sq ge ne wa fe tk cp xc, oX3 y yk yn yc ya yd yl lp re wp lw, aI K yc np zc, aI K ya na za, aI K yl 64 zl, oX4 u um ud, aZ K um 64 zm]) (st' := [.int (iZ (zl (za ((pl * 6) + i).toNat).toNat))]) ([0, 5, 1, 2, 6, 3, 4] : List Nat) rfl rfl rfl ?_
        refine z_istore F (lv' := [(5, .int (iZ (zl (za ((pl * 6) + i).toNat).toNat))), (4, .int (iZ (za ((pl * 6) + i).toNat))), (3, .int (iZ i)), (2, .int (iZ (zc pl.toNat))), (0, .ref x), (1, .int (iZ pl))]) dX5_allAskedAhead_36 (by decide) rfl ?_
        have hlr := h5 (za ((pl * 6) + i).toNat).toNat
        refine z_iload F 0 dX5_allAskedAhead_38 rfl ?_
        refine z_iconst F dX5_allAskedAhead_40 ?_
        refine z_icmp_eq F 62 dX5_allAskedAhead_41 (by decide) (by omega) (fun c2 => ?_) (fun c2 => ?_)
        · refine z_iconst F dX5_allAskedAhead_62 ?_
          exact z_zret F hr (by decide) dX5_allAskedAhead_63 (by omega) ⟨0, rfl, rfl, (by omega)⟩
        · refine z_iload F 0 dX5_allAskedAhead_44 rfl ?_
          refine z_iload_n F 5 dX5_allAskedAhead_46 rfl ?_
          refine z_icmp_ge F 62 dX5_allAskedAhead_47 (by decide) (by omega) (fun c3 => ?_) (fun c3 => ?_)
          · refine z_iconst F dX5_allAskedAhead_62 ?_
            exact z_zret F hr (by decide) dX5_allAskedAhead_63 (by omega) ⟨0, rfl, rfl, (by omega)⟩
          · refine z_aload_n F 4 dX5_allAskedAhead_50 rfl ?_
            refine z_get F 0 2 iX5 rfl rfl (by decide) t1_111 rfl dX5_allAskedAhead_51 ?_
            refine z_iload F 1 dX5_allAskedAhead_54 rfl ?_
            refine z_callV F lw_good (k_X4_has _ D K u um ud zm (za ((pl * 6) + i).toNat) (by omega) h6) t2_156 t1_5 t2_153 t2_154 (q := (RX4, TX4, 2)) t2_155 ⟨rfl, rfl⟩ ndX4_has ⟨Nat.le_of_ble_eq_true rfl, Nat.le_of_ble_eq_true rfl⟩ 0 rfl rfl (rest := []) rfl (Nat.le_of_ble_eq_true rfl) dX5_allAskedAhead_56 ⟨(show 0 + 0 ≤ 0 by omega), (show 0 + 0 ≤ 0 by omega)⟩ (wr := [oX5 x d y u sa ru ar sq ge ne wa fe tk cp xc, oX3 y yk yn yc ya yd yl lp re wp lw, aI K yc np zc, aI K ya na za, aI K yl 64 zl]) ([5, 6] : List Nat) ([0, 1, 2, 3, 4] : List Nat) rfl rfl rfl rfl (by decide) (fun v wo hp => ?_)
            obtain ⟨rfl, rfl⟩ := hp
            refine z_re F (ws' := [oX5 x d y u sa ru ar sq ge ne wa fe tk cp xc, oX3 y yk yn yc ya yd yl lp re wp lw, aI K yc np zc, aI K ya na za, aI K yl 64 zl, oX4 u um ud, aZ K um 64 zm]) (st' := [.int (iZ (zm (za ((pl * 6) + i).toNat).toNat))]) ([0, 1, 2, 3, 4, 5, 6] : List Nat) rfl rfl rfl ?_
            have hmr := h6 (za ((pl * 6) + i).toNat).toNat
            refine z_if_eq F 64 dX5_allAskedAhead_59 (by decide) (by omega) (fun c4 => ?_) (fun c4 => ?_)
            · refine z_iinc F (lv' := [(3, .int (iZ (i + 1))), (5, .int (iZ (zl (za ((pl * 6) + i).toNat).toNat))), (4, .int (iZ (za ((pl * 6) + i).toNat))), (2, .int (iZ (zc pl.toNat))), (0, .ref x), (1, .int (iZ pl))]) 2 dX5_allAskedAhead_64 rfl (by decide) rfl ?_
              refine z_goto F 11 dX5_allAskedAhead_67 (by decide) ?_
              refine z_lv F (lv' := [(3, .int (iZ (i + 1))), (2, .int (iZ (zc pl.toNat))), (0, .ref x), (1, .int (iZ pl))]) [0, 3, 4, 5] rfl ?_
              exact ih (i + 1) (by omega) (by omega)
            · refine z_iconst F dX5_allAskedAhead_62 ?_
              exact z_zret F hr (by decide) dX5_allAskedAhead_63 (by omega) ⟨0, rfl, rfl, (by omega)⟩
  exact lp11 ((zc pl.toNat - 0 : Int).toNat + 1) 0 (by omega) (Nat.lt_succ_self _)
set_option maxHeartbeats 4000000 in
set_option maxRecDepth 20000 in
theorem k_X5_beginEmpty (l : Launch) (D : va_G) (K : KI) (x : Nat) (sa : Int) (ru : Int) (ar : Int) (sq : Int) (ge : Int) (ne : Int) (wa : Int) (fe : Int) (tk : Int) (cp : Int) (xc : Nat) (u : Nat) (d : Nat) (sc : Int) (db : Nat) (dq : Nat) (dt : Nat) (wc : Int) (nb : Nat) (zb : Nat → Int) (zq : Nat → Int) (zt : Nat → Int) (y : Nat) (yk : Nat) (yn : Nat) (yc : Nat) (ya : Nat) (yd : Nat) (yl : Nat) (lp : Int) (re : Int) (wp : Int) (lw : Int) (np : Nat) (zk : Nat → Int) (zn : Nat → Int) (zl : Nat → Int) (h0 : 4 ≤ sc ∧ sc ≤ 40 ∧ (nb : Int) = 512 * sc) (h1 : 1 ≤ sa ∧ 2 * sa ≤ sc - 2 ∧ (np : Int) = 16 * sa) (h2 : 0 ≤ wc ∧ wc ≤ 64) (h3 : rng (-128) 127 zb) (h4 : rng (-128) 127 zq) (h5 : rng 0 (sc-1) zt) (h6 : rng (-1) (np-1) zl) (h7 : nmOk zk zn) (h8 : rng 0 3 zk) : Ct lw_T l yX5_beginEmpty cX5_beginEmpty 1 none { frames := 4, cells := 0, slots := 0, locals := 111 } 0 0 D cls5 (TY K) [.ref x] [oX5 x d y u sa ru ar sq ge ne wa fe tk cp xc, oX0 d sc db dq dt wc, aB K db nb zb, aB K dq 32768 zq, aI K dt 64 zt, oX3 y yk yn yc ya yd yl lp re wp lw, aI K yk np zk, aI K yn np zn, aI K yl 64 zl] (fun v wo => ∃ (wc2 : Int), ∃ (zb2 : Nat → Int), ∃ (zq2 : Nat → Int), ∃ (zt2 : Nat → Int), ∃ (lp2 : Int), ∃ (lw2 : Int), ∃ (zl2 : Nat → Int), v = none ∧ wo = [oX5 x d y u sa ru 0 0 ge ne wa fe tk cp xc, oX0 d sc db dq dt wc2, aB K db nb zb2, aB K dq 32768 zq2, aI K dt 64 zt2, oX3 y yk yn yc ya yd yl lp2 0 0 lw2, aI K yk np zk, aI K yn np zn, aI K yl 64 zl2] ∧ (0 ≤ wc2 ∧ wc2 ≤ 64) ∧ (rng (-128) 127 zb2) ∧ (rng (-128) 127 zq2) ∧ (rng 0 (sc-1) zt2) ∧ (-1 ≤ lp2 ∧ lp2 ≤ np - 1 ∧ -1 ≤ lw2 ∧ lw2 ≤ np - 1) ∧ (rng (-1) (np-1) zl2)) := by
  refine ct_of (own := RX5) (lv := [(0, .ref x)]) (by decide) rfl (Nat.le_of_ble_eq_true rfl) rfl (fun C F hr hnm hzl => ?_)
  subst hzl
  refine z_aload_n F 0 dX5_beginEmpty_0 rfl ?_
  refine z_iconst F dX5_beginEmpty_1 ?_
  refine z_put F (ws' := [oX5 x d y u sa ru ar 0 ge ne wa fe tk cp xc, oX0 d sc db dq dt wc, aB K db nb zb, aB K dq 32768 zq, aI K dt 64 zt, oX3 y yk yn yc ya yd yl lp re wp lw, aI K yk np zk, aI K yn np zn, aI K yl 64 zl]) 0 6 iX5 tyX5 tyX5_ok nmX5 rfl rfl (by decide) t1_115 rfl rfl rfl rfl (Nat.le_of_ble_eq_true rfl) dX5_beginEmpty_2 rfl ?_
  refine z_aload_n F 0 dX5_beginEmpty_5 rfl ?_
  refine z_iconst F dX5_beginEmpty_6 ?_
  refine z_put F (ws' := [oX5 x d y u sa ru 0 0 ge ne wa fe tk cp xc, oX0 d sc db dq dt wc, aB K db nb zb, aB K dq 32768 zq, aI K dt 64 zt, oX3 y yk yn yc ya yd yl lp re wp lw, aI K yk np zk, aI K yn np zn, aI K yl 64 zl]) 0 5 iX5 tyX5 tyX5_ok nmX5 rfl rfl (by decide) t1_114 rfl rfl rfl rfl (Nat.le_of_ble_eq_true rfl) dX5_beginEmpty_7 rfl ?_
  refine z_aload_n F 0 dX5_beginEmpty_10 rfl ?_
  refine z_get F 0 1 iX5 rfl rfl (by decide) t1_110 rfl dX5_beginEmpty_11 ?_
  refine z_callV F lw_good (k_X3_clear _ D K y yk yn yc ya yd yl lp re wp lw np zk zn zl (by omega) h6 h7 h8) t1_195 t1_4 t1_192 t1_193 (q := (RX3, TX3, 10)) t1_194 ⟨rfl, rfl⟩ ndX3_clear ⟨Nat.le_of_ble_eq_true rfl, Nat.le_of_ble_eq_true rfl⟩ 0 rfl rfl (rest := []) rfl (Nat.le_of_ble_eq_true rfl) dX5_beginEmpty_14 ⟨(show 0 + 0 ≤ 0 by omega), (show 0 + 0 ≤ 0 by omega)⟩ (wr := [oX5 x d y u sa ru 0 0 ge ne wa fe tk cp xc, oX0 d sc db dq dt wc, aB K db nb zb, aB K dq 32768 zq, aI K dt 64 zt]) ([5, 6, 7, 8] : List Nat) ([0, 1, 2, 3, 4] : List Nat) rfl rfl rfl rfl (by decide) (fun v wo hp => ?_)
  obtain ⟨lp2_1, lw2_2, zl2_3, rfl, rfl, f4, f5⟩ := hp
  refine z_re F (ws' := [oX5 x d y u sa ru 0 0 ge ne wa fe tk cp xc, oX0 d sc db dq dt wc, aB K db nb zb, aB K dq 32768 zq, aI K dt 64 zt, oX3 y yk yn yc ya yd yl lp2_1 0 0 lw2_2, aI K yk np zk, aI K yn np zn, aI K yl 64 zl2_3]) (st' := []) ([0, 1, 2, 3, 4, 5, 6, 7, 8] : List Nat) rfl rfl rfl ?_
  refine z_aload_n F 0 dX5_beginEmpty_17 rfl ?_
  refine z_iconst F dX5_beginEmpty_18 ?_
  refine z_callV F lw_good (k_X5_clearArea _ D K x y u sa ru 0 0 ge ne wa fe tk cp xc d sc db dq dt wc nb zb zq zt 0 h0 h3 h4 h5 h2 (by omega) (by omega)) t1_207 t1_1 t1_204 t1_206 (q := (RX5, TX5, 14)) ts_4 ⟨rfl, rfl⟩ ndX5_clearArea ⟨Nat.le_of_ble_eq_true rfl, Nat.le_of_ble_eq_true rfl⟩ 0 rfl rfl (rest := []) rfl (Nat.le_of_ble_eq_true rfl) dX5_beginEmpty_19 ⟨(show 0 + 0 ≤ 0 by omega), (show 0 + 0 ≤ 0 by omega)⟩ (wr := [oX3 y yk yn yc ya yd yl lp2_1 0 0 lw2_2, aI K yk np zk, aI K yn np zn, aI K yl 64 zl2_3]) ([0, 1, 2, 3, 4] : List Nat) ([5, 6, 7, 8] : List Nat) rfl rfl rfl rfl (by decide) (fun v wo hp => ?_)
  obtain ⟨wc2_6, zb2_7, zq2_8, zt2_9, rfl, rfl, f10, f11, f12, f13⟩ := hp
  refine z_re F (ws' := [oX5 x d y u sa ru 0 0 ge ne wa fe tk cp xc, oX0 d sc db dq dt wc2_6, aB K db nb zb2_7, aB K dq 32768 zq2_8, aI K dt 64 zt2_9, oX3 y yk yn yc ya yd yl lp2_1 0 0 lw2_2, aI K yk np zk, aI K yn np zn, aI K yl 64 zl2_3]) (st' := []) ([4, 5, 6, 7, 8, 0, 1, 2, 3] : List Nat) rfl rfl rfl ?_
  exact z_vret F hr dX5_beginEmpty_22 (by omega) ⟨wc2_6, zb2_7, zq2_8, zt2_9, lp2_1, lw2_2, zl2_3, rfl, rfl, f10, f11, f12, f13, f4, f5⟩
set_option maxHeartbeats 4000000 in
set_option maxRecDepth 20000 in
theorem k_X5_beginBy (l : Launch) (D : va_G) (K : KI) (x : Nat) (sa : Int) (ru : Int) (ar : Int) (sq : Int) (ge : Int) (ne : Int) (wa : Int) (fe : Int) (tk : Int) (cp : Int) (xc : Nat) (u : Nat) (d : Nat) (sc : Int) (db : Nat) (dq : Nat) (dt : Nat) (wc : Int) (nb : Nat) (zb : Nat → Int) (y : Nat) (yk : Nat) (yn : Nat) (yc : Nat) (ya : Nat) (yd : Nat) (yl : Nat) (lp : Int) (re : Int) (wp : Int) (lw : Int) (np : Nat) (na : Nat) (zk : Nat → Int) (zn : Nat → Int) (zc : Nat → Int) (za : Nat → Int) (fd : Nat → Int64) (zl : Nat → Int) (h : Int) (h0 : 4 ≤ sc ∧ sc ≤ 40 ∧ (nb : Int) = 512 * sc) (h1 : 1 ≤ sa ∧ 2 * sa ≤ sc - 2 ∧ (np : Int) = 16 * sa ∧ (na : Int) = 6 * np) (h2 : rng (-128) 127 zb) (h3 : 0 ≤ h ∧ h ≤ 1) (h4 : 0 ≤ zb (h * 512 + 8).toNat % 256 ∧ zb (h * 512 + 8).toNat % 256 ≤ 1) (h5 : rng 0 3 zk) (h6 : rng (-128) 127 zn) (h7 : nmOk zk zn) (h8 : rng 0 6 zc) (h9 : rng (-128) 127 za) (h10 : akOk zc za) (h11 : rng (-1) (np-1) zl) : Ct lw_T l yX5_beginBy cX5_beginBy 2 none { frames := 4, cells := 0, slots := 0, locals := 98 } 0 0 D cls5 (TY K) [.ref x, .int (iZ h)] [oX5 x d y u sa ru ar sq ge ne wa fe tk cp xc, oX0 d sc db dq dt wc, aB K db nb zb, oX3 y yk yn yc ya yd yl lp re wp lw, aI K yk np zk, aI K yn np zn, aI K yc np zc, aI K ya na za, aL K yd np fd, aI K yl 64 zl] (fun v wo => ∃ (sq2 : Int), ∃ (ar2 : Int), ∃ (lp2 : Int), ∃ (re2 : Int), ∃ (wp2 : Int), ∃ (lw2 : Int), ∃ (zk2 : Nat → Int), ∃ (zn2 : Nat → Int), ∃ (zc2 : Nat → Int), ∃ (za2 : Nat → Int), ∃ (fd2 : Nat → Int64), ∃ (zl2 : Nat → Int), v = none ∧ wo = [oX5 x d y u sa ru ar2 sq2 ge ne wa fe tk cp xc, oX0 d sc db dq dt wc, aB K db nb zb, oX3 y yk yn yc ya yd yl lp2 re2 wp2 lw2, aI K yk np zk2, aI K yn np zn2, aI K yc np zc2, aI K ya na za2, aL K yd np fd2, aI K yl 64 zl2] ∧ (0 ≤ ar2 ∧ ar2 ≤ 1) ∧ (0 ≤ re2 ∧ re2 ≤ np) ∧ (-1 ≤ lp2 ∧ lp2 ≤ np - 1 ∧ 0 ≤ wp2 ∧ wp2 ≤ re2 ∧ -1 ≤ lw2 ∧ lw2 ≤ np - 1) ∧ (rng 0 3 zk2) ∧ (rng (-128) 127 zn2) ∧ (nmOk zk2 zn2) ∧ (rng 0 6 zc2) ∧ (rng (-128) 127 za2) ∧ (akOk zc2 za2) ∧ (rng (-1) (np-1) zl2)) := by
  refine ct_of (own := RX5) (lv := [(0, .ref x), (1, .int (iZ h))]) (by decide) rfl (Nat.le_of_ble_eq_true rfl) rfl (fun C F hr hnm hzl => ?_)
  subst hzl
  refine z_aload_n F 0 dX5_beginBy_0 rfl ?_
  refine z_aload_n F 0 dX5_beginBy_1 rfl ?_
  refine z_get F 0 0 iX5 rfl rfl (by decide) t1_109 rfl dX5_beginBy_2 ?_
  refine z_get F 1 1 iX0 rfl rfl (by decide) t1_39 rfl dX5_beginBy_5 ?_
  refine z_iload_n F 1 dX5_beginBy_8 rfl ?_
  refine z_callS F lw_good (k_X1_sequenceAt _ D K db nb zb h (by omega)) t1_180 t1_7 t1_232 t1_179 ⟨rfl, rfl⟩ ndX1_sequenceAt ⟨Nat.le_of_ble_eq_true rfl, Nat.le_of_ble_eq_true rfl⟩ (rest := [.ref x]) rfl (Nat.le_of_ble_eq_true rfl) dX5_beginBy_9 ⟨(show 0 + 0 ≤ 0 by omega), (show 0 + 0 ≤ 0 by omega)⟩ (wr := [oX5 x d y u sa ru ar sq ge ne wa fe tk cp xc, oX0 d sc db dq dt wc, oX3 y yk yn yc ya yd yl lp re wp lw, aI K yk np zk, aI K yn np zn, aI K yc np zc, aI K ya na za, aL K yd np fd, aI K yl 64 zl]) ([2] : List Nat) ([0, 1, 3, 4, 5, 6, 7, 8, 9] : List Nat) rfl rfl rfl rfl (by decide) (fun v wo hp => ?_)
  obtain ⟨r_1, rfl, rfl, f2⟩ := hp
  refine z_re F (ws' := [oX5 x d y u sa ru ar sq ge ne wa fe tk cp xc, oX0 d sc db dq dt wc, aB K db nb zb, oX3 y yk yn yc ya yd yl lp re wp lw, aI K yk np zk, aI K yn np zn, aI K yc np zc, aI K ya na za, aL K yd np fd, aI K yl 64 zl]) (st' := [.int (iZ r_1), .ref x]) ([0, 1, 9, 2, 3, 4, 5, 6, 7, 8] : List Nat) rfl rfl rfl ?_
  refine z_put F (ws' := [oX5 x d y u sa ru ar r_1 ge ne wa fe tk cp xc, oX0 d sc db dq dt wc, aB K db nb zb, oX3 y yk yn yc ya yd yl lp re wp lw, aI K yk np zk, aI K yn np zn, aI K yc np zc, aI K ya na za, aL K yd np fd, aI K yl 64 zl]) 0 6 iX5 tyX5 tyX5_ok nmX5 rfl rfl (by decide) t1_115 rfl rfl rfl rfl (Nat.le_of_ble_eq_true rfl) dX5_beginBy_12 rfl ?_
  refine z_aload_n F 0 dX5_beginBy_15 rfl ?_
  refine z_aload_n F 0 dX5_beginBy_16 rfl ?_
  refine z_get F 0 0 iX5 rfl rfl (by decide) t1_109 rfl dX5_beginBy_17 ?_
  refine z_get F 1 1 iX0 rfl rfl (by decide) t1_39 rfl dX5_beginBy_20 ?_
  refine z_iload_n F 1 dX5_beginBy_23 rfl ?_
  refine z_callS F lw_good (k_X1_areaAt _ D K db nb zb h (by omega)) t1_169 t1_7 t1_233 t1_168 ⟨rfl, rfl⟩ ndX1_areaAt ⟨Nat.le_of_ble_eq_true rfl, Nat.le_of_ble_eq_true rfl⟩ (rest := [.ref x]) rfl (Nat.le_of_ble_eq_true rfl) dX5_beginBy_24 ⟨(show 0 + 0 ≤ 0 by omega), (show 0 + 0 ≤ 0 by omega)⟩ (wr := [oX5 x d y u sa ru ar r_1 ge ne wa fe tk cp xc, oX0 d sc db dq dt wc, oX3 y yk yn yc ya yd yl lp re wp lw, aI K yk np zk, aI K yn np zn, aI K yc np zc, aI K ya na za, aL K yd np fd, aI K yl 64 zl]) ([2] : List Nat) ([0, 1, 3, 4, 5, 6, 7, 8, 9] : List Nat) rfl rfl rfl rfl (by decide) (fun v wo hp => ?_)
  obtain ⟨r_3, rfl, rfl, f4⟩ := hp
  refine z_re F (ws' := [oX5 x d y u sa ru ar r_1 ge ne wa fe tk cp xc, oX0 d sc db dq dt wc, aB K db nb zb, oX3 y yk yn yc ya yd yl lp re wp lw, aI K yk np zk, aI K yn np zn, aI K yc np zc, aI K ya na za, aL K yd np fd, aI K yl 64 zl]) (st' := [.int (iZ r_3), .ref x]) ([0, 1, 9, 2, 3, 4, 5, 6, 7, 8] : List Nat) rfl rfl rfl ?_
  refine z_put F (ws' := [oX5 x d y u sa ru r_3 r_1 ge ne wa fe tk cp xc, oX0 d sc db dq dt wc, aB K db nb zb, oX3 y yk yn yc ya yd yl lp re wp lw, aI K yk np zk, aI K yn np zn, aI K yc np zc, aI K ya na za, aL K yd np fd, aI K yl 64 zl]) 0 5 iX5 tyX5 tyX5_ok nmX5 rfl rfl (by decide) t1_114 rfl rfl rfl rfl (Nat.le_of_ble_eq_true rfl) dX5_beginBy_27 rfl ?_
  refine z_aload_n F 0 dX5_beginBy_30 rfl ?_
  refine z_get F 0 1 iX5 rfl rfl (by decide) t1_110 rfl dX5_beginBy_31 ?_
  refine z_aload_n F 0 dX5_beginBy_34 rfl ?_
  refine z_get F 0 0 iX5 rfl rfl (by decide) t1_109 rfl dX5_beginBy_35 ?_
  refine z_get F 1 1 iX0 rfl rfl (by decide) t1_39 rfl dX5_beginBy_38 ?_
  refine z_aload_n F 0 dX5_beginBy_41 rfl ?_
  refine z_aload_n F 0 dX5_beginBy_42 rfl ?_
  refine z_get F 0 5 iX5 rfl rfl (by decide) t1_114 rfl dX5_beginBy_43 ?_
  refine z_callV F lw_good (k_X5_firstSector _ D K x d y u sa ru r_3 r_1 ge ne wa fe tk cp xc r_3 (by omega)) t1_211 t1_1 t1_208 t1_210 (q := (RX5, TX5, 14)) ts_5 ⟨rfl, rfl⟩ ndX5_firstSector ⟨Nat.le_of_ble_eq_true rfl, Nat.le_of_ble_eq_true rfl⟩ 0 rfl rfl (rest := [.ref db, .ref y]) rfl (Nat.le_of_ble_eq_true rfl) dX5_beginBy_46 ⟨(show 0 + 0 ≤ 0 by omega), (show 0 + 0 ≤ 0 by omega)⟩ (wr := [oX0 d sc db dq dt wc, aB K db nb zb, oX3 y yk yn yc ya yd yl lp re wp lw, aI K yk np zk, aI K yn np zn, aI K yc np zc, aI K ya na za, aL K yd np fd, aI K yl 64 zl]) ([0] : List Nat) ([1, 2, 3, 4, 5, 6, 7, 8, 9] : List Nat) rfl rfl rfl rfl (by decide) (fun v wo hp => ?_)
  obtain ⟨r_5, rfl, rfl, f6⟩ := hp
  refine z_re F (ws' := [oX5 x d y u sa ru r_3 r_1 ge ne wa fe tk cp xc, oX0 d sc db dq dt wc, aB K db nb zb, oX3 y yk yn yc ya yd yl lp re wp lw, aI K yk np zk, aI K yn np zn, aI K yc np zc, aI K ya na za, aL K yd np fd, aI K yl 64 zl]) (st' := [.int (iZ r_5), .ref db, .ref y]) ([9, 0, 1, 2, 3, 4, 5, 6, 7, 8] : List Nat) rfl rfl rfl ?_
  refine z_sipush F dX5_beginBy_49 (by decide) ?_
  refine z_imul F dX5_beginBy_52 ?_
  refine z_callV F lw_good (k_X3_read _ D K y yk yn yc ya yd yl lp re wp lw np na zk zn zc za fd zl db nb zb (r_5 * 512) (by omega) (by omega) h2 h5 h6 h7 h8 h9 h10 h11) t1_237 t1_4 t1_234 t1_235 (q := (RX3, TX3, 10)) t1_236 ⟨rfl, rfl⟩ ndX3_read ⟨Nat.le_of_ble_eq_true rfl, Nat.le_of_ble_eq_true rfl⟩ 0 rfl rfl (rest := []) rfl (Nat.le_of_ble_eq_true rfl) dX5_beginBy_53 ⟨(show 0 + 0 ≤ 0 by omega), (show 0 + 0 ≤ 0 by omega)⟩ (wr := [oX5 x d y u sa ru r_3 r_1 ge ne wa fe tk cp xc, oX0 d sc db dq dt wc]) ([3, 4, 5, 6, 7, 8, 9, 2] : List Nat) ([0, 1] : List Nat) rfl rfl rfl rfl (by decide) (fun v wo hp => ?_)
  obtain ⟨lp2_7, re2_8, wp2_9, lw2_10, zk2_11, zn2_12, zc2_13, za2_14, fd2_15, zl2_16, rfl, rfl, f17, f18, f19, f20, f21, f22, f23, f24, f25⟩ := hp
  refine z_re F (ws' := [oX5 x d y u sa ru r_3 r_1 ge ne wa fe tk cp xc, oX0 d sc db dq dt wc, aB K db nb zb, oX3 y yk yn yc ya yd yl lp2_7 re2_8 wp2_9 lw2_10, aI K yk np zk2_11, aI K yn np zn2_12, aI K yc np zc2_13, aI K ya na za2_14, aL K yd np fd2_15, aI K yl 64 zl2_16]) (st' := []) ([0, 1, 9, 2, 3, 4, 5, 6, 7, 8] : List Nat) rfl rfl rfl ?_
  exact z_vret F hr dX5_beginBy_56 (by omega) ⟨r_1, r_3, lp2_7, re2_8, wp2_9, lw2_10, zk2_11, zn2_12, zc2_13, za2_14, fd2_15, zl2_16, rfl, rfl, (by omega), f17, f18, f19, f20, f21, f22, f23, f24, f25⟩
set_option maxHeartbeats 4000000 in
set_option maxRecDepth 20000 in
theorem k_X5_takePlace (l : Launch) (D : va_G) (K : KI) (x : Nat) (sa : Int) (ru : Int) (ar : Int) (sq : Int) (ge : Int) (ne : Int) (wa : Int) (fe : Int) (tk : Int) (cp : Int) (xc : Nat) (u : Nat) (d : Nat) (sc : Int) (db : Nat) (dq : Nat) (dt : Nat) (wc : Int) (nb : Nat) (zb : Nat → Int) (zq : Nat → Int) (zt : Nat → Int) (y : Nat) (yk : Nat) (yn : Nat) (yc : Nat) (ya : Nat) (yd : Nat) (yl : Nat) (lp : Int) (re : Int) (wp : Int) (lw : Int) (np : Nat) (na : Nat) (zk : Nat → Int) (zn : Nat → Int) (zc : Nat → Int) (za : Nat → Int) (fd : Nat → Int64) (zl : Nat → Int) (zx : Nat → Int) (h0 : 4 ≤ sc ∧ sc ≤ 40 ∧ (nb : Int) = 512 * sc) (h1 : 1 ≤ sa ∧ 2 * sa ≤ sc - 2 ∧ (np : Int) = 16 * sa ∧ (na : Int) = 6 * np) (h2 : 0 ≤ wc ∧ wc ≤ 64) (h3 : rng (-128) 127 zb) (h4 : rng (-128) 127 zq) (h5 : rng 0 (sc-1) zt) (h6 : 0 ≤ re ∧ re ≤ np) (h7 : -1 ≤ lp ∧ lp ≤ np - 1 ∧ 0 ≤ wp ∧ wp ≤ re ∧ -1 ≤ lw ∧ lw ≤ np - 1) (h8 : rng 0 3 zk) (h9 : rng (-128) 127 zn) (h10 : nmOk zk zn) (h11 : rng 0 6 zc) (h12 : rng (-128) 127 za) (h13 : akOk zc za) (h14 : rng (-1) (np-1) zl) (h15 : 0 ≤ ar ∧ ar ≤ 1) (h16 : -1 ≤ tk ∧ tk ≤ re ∧ (tk = -1 ∨ (0 ≤ cp ∧ cp ≤ tk))) (h17 : rng 0 (np-1) zx) (h18 : 0 ≤ tk ∧ tk ≤ re - 1) : Ct lw_T l yX5_takePlace cX5_takePlace 2 none { frames := 4, cells := 0, slots := 0, locals := 112 } 0 0 D cls5 (TY K) [.ref x, .int (iZ tk)] [oX5 x d y u sa ru ar sq ge ne wa fe tk cp xc, oX0 d sc db dq dt wc, aB K db nb zb, aB K dq 32768 zq, aI K dt 64 zt, oX3 y yk yn yc ya yd yl lp re wp lw, aI K yk np zk, aI K yn np zn, aI K yc np zc, aI K ya na za, aL K yd np fd, aI K yl 64 zl, aI K xc np zx] (fun v wo => ∃ (wc2 : Int), ∃ (zb2 : Nat → Int), ∃ (zq2 : Nat → Int), ∃ (zt2 : Nat → Int), ∃ (cp2 : Int), ∃ (zx2 : Nat → Int), v = none ∧ wo = [oX5 x d y u sa ru ar sq ge ne wa fe (tk + 1) cp2 xc, oX0 d sc db dq dt wc2, aB K db nb zb2, aB K dq 32768 zq2, aI K dt 64 zt2, oX3 y yk yn yc ya yd yl lp re wp lw, aI K yk np zk, aI K yn np zn, aI K yc np zc, aI K ya na za, aL K yd np fd, aI K yl 64 zl, aI K xc np zx2] ∧ (0 ≤ wc2 ∧ wc2 ≤ 64) ∧ (rng (-128) 127 zb2) ∧ (rng (-128) 127 zq2) ∧ (rng 0 (sc-1) zt2) ∧ (0 ≤ cp2 ∧ cp2 ≤ tk + 1) ∧ (rng 0 (np-1) zx2)) := by
  refine ct_of (own := RX5) (lv := [(0, .ref x), (1, .int (iZ tk))]) (by decide) rfl (Nat.le_of_ble_eq_true rfl) rfl (fun C F hr hnm hzl => ?_)
  subst hzl
  refine z_aload_n F 0 dX5_takePlace_0 rfl ?_
  refine z_get F 0 1 iX5 rfl rfl (by decide) t1_110 rfl dX5_takePlace_1 ?_
  refine z_iload_n F 1 dX5_takePlace_4 rfl ?_
  refine z_callV F lw_good (k_X3_isToCopy _ D K y yk yn yc ya yd yl lp re wp lw np zk zn zl tk (by omega) (by omega) h8 h10 h14) t2_124 t1_4 t2_121 t2_122 (q := (RX3, TX3, 10)) t2_123 ⟨rfl, rfl⟩ ndX3_isToCopy ⟨Nat.le_of_ble_eq_true rfl, Nat.le_of_ble_eq_true rfl⟩ 0 rfl rfl (rest := []) rfl (Nat.le_of_ble_eq_true rfl) dX5_takePlace_5 ⟨(show 0 + 0 ≤ 0 by omega), (show 0 + 0 ≤ 0 by omega)⟩ (wr := [oX5 x d y u sa ru ar sq ge ne wa fe tk cp xc, oX0 d sc db dq dt wc, aB K db nb zb, aB K dq 32768 zq, aI K dt 64 zt, aI K yc np zc, aI K ya na za, aL K yd np fd, aI K xc np zx]) ([5, 6, 7, 11] : List Nat) ([0, 1, 2, 3, 4, 8, 9, 10, 12] : List Nat) rfl rfl rfl rfl (by decide) (fun v wo hp => ?_)
  obtain ⟨r_1, rfl, rfl, f2⟩ := hp
  refine z_re F (ws' := [oX5 x d y u sa ru ar sq ge ne wa fe tk cp xc, oX0 d sc db dq dt wc, aB K db nb zb, aB K dq 32768 zq, aI K dt 64 zt, oX3 y yk yn yc ya yd yl lp re wp lw, aI K yk np zk, aI K yn np zn, aI K yc np zc, aI K ya na za, aL K yd np fd, aI K yl 64 zl, aI K xc np zx]) (st' := [.int (iZ r_1)]) ([0, 1, 2, 3, 4, 9, 10, 11, 5, 6, 7, 12, 8] : List Nat) rfl rfl rfl ?_
  refine z_if_eq F 46 dX5_takePlace_8 (by decide) (by omega) (fun c3 => ?_) (fun c3 => ?_)
  · refine z_aload_n F 0 dX5_takePlace_46 rfl ?_
    refine z_dup F dX5_takePlace_47 rfl ?_
    refine z_get F 0 11 iX5 rfl rfl (by decide) t1_120 rfl dX5_takePlace_48 ?_
    refine z_iconst F dX5_takePlace_51 ?_
    refine z_iadd F dX5_takePlace_52 ?_
    refine z_put F (ws' := [oX5 x d y u sa ru ar sq ge ne wa fe (tk + 1) cp xc, oX0 d sc db dq dt wc, aB K db nb zb, aB K dq 32768 zq, aI K dt 64 zt, oX3 y yk yn yc ya yd yl lp re wp lw, aI K yk np zk, aI K yn np zn, aI K yc np zc, aI K ya na za, aL K yd np fd, aI K yl 64 zl, aI K xc np zx]) 0 11 iX5 tyX5 tyX5_ok nmX5 rfl rfl (by decide) t1_120 rfl rfl rfl rfl (Nat.le_of_ble_eq_true rfl) dX5_takePlace_53 rfl ?_
    exact z_vret F hr dX5_takePlace_56 (by omega) ⟨wc, zb, zq, zt, cp, zx, rfl, rfl, h2, h3, h4, h5, (by omega), h17⟩
  · refine z_aload_n F 0 dX5_takePlace_11 rfl ?_
    refine z_iload_n F 1 dX5_takePlace_12 rfl ?_
    refine z_iconst F dX5_takePlace_13 ?_
    refine z_aload_n F 0 dX5_takePlace_14 rfl ?_
    refine z_get F 0 5 iX5 rfl rfl (by decide) t1_114 rfl dX5_takePlace_15 ?_
    refine z_isub F dX5_takePlace_18 ?_
    refine z_aload_n F 0 dX5_takePlace_19 rfl ?_
    refine z_get F 0 12 iX5 rfl rfl (by decide) t1_121 rfl dX5_takePlace_20 ?_
    refine z_callV F lw_good (k_X5_writeRow _ D K x sa ru ar sq ge ne wa fe tk cp xc u d sc db dq dt wc nb zb zq zt y yk yn yc ya yd yl lp re wp lw np na zk zn zc za fd tk (1 - ar) cp h0 h1 h2 h3 h4 h5 (by omega) (by omega) h11 h12) t2_61 t1_1 t2_58 t2_60 (q := (RX5, TX5, 14)) ts_11 ⟨rfl, rfl⟩ ndX5_writeRow ⟨Nat.le_of_ble_eq_true rfl, Nat.le_of_ble_eq_true rfl⟩ 0 rfl rfl (rest := []) rfl (Nat.le_of_ble_eq_true rfl) dX5_takePlace_23 ⟨(show 0 + 0 ≤ 0 by omega), (show 0 + 0 ≤ 0 by omega)⟩ (wr := [aI K yl 64 zl, aI K xc np zx]) ([0, 1, 2, 3, 4, 5, 6, 7, 8, 9, 10] : List Nat) ([11, 12] : List Nat) rfl rfl rfl rfl (by decide) (fun v wo hp => ?_)
    obtain ⟨wc2_4, zb2_5, zq2_6, zt2_7, rfl, rfl, f8, f9, f10, f11⟩ := hp
    refine z_re F (ws' := [oX5 x d y u sa ru ar sq ge ne wa fe tk cp xc, oX0 d sc db dq dt wc2_4, aB K db nb zb2_5, aB K dq 32768 zq2_6, aI K dt 64 zt2_7, oX3 y yk yn yc ya yd yl lp re wp lw, aI K yk np zk, aI K yn np zn, aI K yc np zc, aI K ya na za, aL K yd np fd, aI K yl 64 zl, aI K xc np zx]) (st' := []) ([2, 3, 4, 5, 6, 7, 8, 9, 10, 11, 12, 0, 1] : List Nat) rfl rfl rfl ?_
    refine z_aload_n F 0 dX5_takePlace_26 rfl ?_
    refine z_get F 0 13 iX5 rfl rfl (by decide) t1_122 rfl dX5_takePlace_27 ?_
    refine z_aload_n F 0 dX5_takePlace_30 rfl ?_
    refine z_get F 0 12 iX5 rfl rfl (by decide) t1_121 rfl dX5_takePlace_31 ?_
    refine z_iload_n F 1 dX5_takePlace_34 rfl ?_
    refine z_iast F (ws' := [oX5 x d y u sa ru ar sq ge ne wa fe tk cp xc, oX0 d sc db dq dt wc2_4, aB K db nb zb2_5, aB K dq 32768 zq2_6, aI K dt 64 zt2_7, oX3 y yk yn yc ya yd yl lp re wp lw, aI K yk np zk, aI K yn np zn, aI K yc np zc, aI K ya na za, aL K yd np fd, aI K yl 64 zl, aI K xc np (zu zx cp.toNat tk)]) 12 rfl rfl dX5_takePlace_35 (by omega) (by omega) rfl ?_
    have r12 : rng 0 (np-1) (zu zx cp.toNat tk) := rng_zu h17 (by omega)
    refine z_aload_n F 0 dX5_takePlace_36 rfl ?_
    refine z_dup F dX5_takePlace_37 rfl ?_
    refine z_get F 0 12 iX5 rfl rfl (by decide) t1_121 rfl dX5_takePlace_38 ?_
    refine z_iconst F dX5_takePlace_41 ?_
    refine z_iadd F dX5_takePlace_42 ?_
    refine z_put F (ws' := [oX5 x d y u sa ru ar sq ge ne wa fe tk (cp + 1) xc, oX0 d sc db dq dt wc2_4, aB K db nb zb2_5, aB K dq 32768 zq2_6, aI K dt 64 zt2_7, oX3 y yk yn yc ya yd yl lp re wp lw, aI K yk np zk, aI K yn np zn, aI K yc np zc, aI K ya na za, aL K yd np fd, aI K yl 64 zl, aI K xc np (zu zx cp.toNat tk)]) 0 12 iX5 tyX5 tyX5_ok nmX5 rfl rfl (by decide) t1_121 rfl rfl rfl rfl (Nat.le_of_ble_eq_true rfl) dX5_takePlace_43 rfl ?_
    refine z_aload_n F 0 dX5_takePlace_46 rfl ?_
    refine z_dup F dX5_takePlace_47 rfl ?_
    refine z_get F 0 11 iX5 rfl rfl (by decide) t1_120 rfl dX5_takePlace_48 ?_
    refine z_iconst F dX5_takePlace_51 ?_
    refine z_iadd F dX5_takePlace_52 ?_
    refine z_put F (ws' := [oX5 x d y u sa ru ar sq ge ne wa fe (tk + 1) (cp + 1) xc, oX0 d sc db dq dt wc2_4, aB K db nb zb2_5, aB K dq 32768 zq2_6, aI K dt 64 zt2_7, oX3 y yk yn yc ya yd yl lp re wp lw, aI K yk np zk, aI K yn np zn, aI K yc np zc, aI K ya na za, aL K yd np fd, aI K yl 64 zl, aI K xc np (zu zx cp.toNat tk)]) 0 11 iX5 tyX5 tyX5_ok nmX5 rfl rfl (by decide) t1_120 rfl rfl rfl rfl (Nat.le_of_ble_eq_true rfl) dX5_takePlace_53 rfl ?_
    exact z_vret F hr dX5_takePlace_56 (by omega) ⟨wc2_4, zb2_5, zq2_6, zt2_7, (cp + 1), (zu zx cp.toNat tk), rfl, rfl, f8, f9, f10, f11, (by omega), r12⟩
set_option maxHeartbeats 4000000 in
set_option maxRecDepth 20000 in
theorem k_X5_endCompaction (l : Launch) (D : va_G) (K : KI) (x : Nat) (sa : Int) (ru : Int) (ar : Int) (sq : Int) (ge : Int) (ne : Int) (wa : Int) (fe : Int) (tk : Int) (cp : Int) (xc : Nat) (u : Nat) (d : Nat) (sc : Int) (db : Nat) (dq : Nat) (dt : Nat) (wc : Int) (nb : Nat) (zb : Nat → Int) (zq : Nat → Int) (zt : Nat → Int) (y : Nat) (yk : Nat) (yn : Nat) (yc : Nat) (ya : Nat) (yd : Nat) (yl : Nat) (lp : Int) (re : Int) (wp : Int) (lw : Int) (np : Nat) (na : Nat) (zk : Nat → Int) (zn : Nat → Int) (zc : Nat → Int) (za : Nat → Int) (fd : Nat → Int64) (zl : Nat → Int) (zx : Nat → Int) (h0 : 4 ≤ sc ∧ sc ≤ 40 ∧ (nb : Int) = 512 * sc) (h1 : 1 ≤ sa ∧ 2 * sa ≤ sc - 2 ∧ (np : Int) = 16 * sa ∧ (na : Int) = 6 * np) (h2 : 0 ≤ wc ∧ wc ≤ 64) (h3 : rng (-128) 127 zb) (h4 : rng (-128) 127 zq) (h5 : rng 0 (sc-1) zt) (h6 : 0 ≤ re ∧ re ≤ np) (h7 : -1 ≤ lp ∧ lp ≤ np - 1 ∧ 0 ≤ wp ∧ wp ≤ re ∧ -1 ≤ lw ∧ lw ≤ np - 1) (h8 : rng 0 3 zk) (h9 : rng (-128) 127 zn) (h10 : nmOk zk zn) (h11 : rng 0 6 zc) (h12 : rng (-128) 127 za) (h13 : akOk zc za) (h14 : rng (-1) (np-1) zl) (h15 : 0 ≤ ar ∧ ar ≤ 1) (h16 : -1 ≤ tk ∧ tk ≤ re ∧ (tk = -1 ∨ (0 ≤ cp ∧ cp ≤ tk))) (h17 : rng 0 (np-1) zx) (h18 : 0 ≤ tk) : Ct lw_T l yX5_endCompaction cX5_endCompaction 1 none { frames := 4, cells := 0, slots := 0, locals := 110 } 0 0 D cls5 (TY K) [.ref x] [oX5 x d y u sa ru ar sq ge ne wa fe tk cp xc, oX0 d sc db dq dt wc, aB K db nb zb, aB K dq 32768 zq, aI K dt 64 zt, oX3 y yk yn yc ya yd yl lp re wp lw, aI K yk np zk, aI K yn np zn, aI K yc np zc, aI K ya na za, aL K yd np fd, aI K yl 64 zl, aI K xc np zx] (fun v wo => ∃ (sq2 : Int), ∃ (wc2 : Int), ∃ (zb2 : Nat → Int), ∃ (zq2 : Nat → Int), ∃ (zt2 : Nat → Int), ∃ (lp2 : Int), ∃ (wp2 : Int), ∃ (lw2 : Int), ∃ (zk2 : Nat → Int), ∃ (zn2 : Nat → Int), ∃ (zc2 : Nat → Int), ∃ (za2 : Nat → Int), ∃ (fd2 : Nat → Int64), ∃ (zl2 : Nat → Int), v = none ∧ wo = [oX5 x d y u sa ru (1 - ar) sq2 ge ne wa cp (-1) cp xc, oX0 d sc db dq dt wc2, aB K db nb zb2, aB K dq 32768 zq2, aI K dt 64 zt2, oX3 y yk yn yc ya yd yl lp2 cp wp2 lw2, aI K yk np zk2, aI K yn np zn2, aI K yc np zc2, aI K ya na za2, aL K yd np fd2, aI K yl 64 zl2, aI K xc np zx] ∧ (0 ≤ wc2 ∧ wc2 ≤ 64) ∧ (rng (-128) 127 zb2) ∧ (rng (-128) 127 zq2) ∧ (rng 0 (sc-1) zt2) ∧ (-1 ≤ lp2 ∧ lp2 ≤ np - 1 ∧ 0 ≤ wp2 ∧ wp2 ≤ cp ∧ -1 ≤ lw2 ∧ lw2 ≤ np - 1) ∧ (rng 0 3 zk2) ∧ (rng (-128) 127 zn2) ∧ (nmOk zk2 zn2) ∧ (rng 0 6 zc2) ∧ (rng (-128) 127 za2) ∧ (akOk zc2 za2) ∧ (rng (-1) (np-1) zl2)) := by
  refine ct_of (own := RX5) (lv := [(0, .ref x)]) (by decide) rfl (Nat.le_of_ble_eq_true rfl) rfl (fun C F hr hnm hzl => ?_)
  subst hzl
  refine z_aload_n F 0 dX5_endCompaction_0 rfl ?_
  refine z_iconst F dX5_endCompaction_1 ?_
  refine z_aload_n F 0 dX5_endCompaction_2 rfl ?_
  refine z_get F 0 5 iX5 rfl rfl (by decide) t1_114 rfl dX5_endCompaction_3 ?_
  refine z_isub F dX5_endCompaction_6 ?_
  refine z_put F (ws' := [oX5 x d y u sa ru (1 - ar) sq ge ne wa fe tk cp xc, oX0 d sc db dq dt wc, aB K db nb zb, aB K dq 32768 zq, aI K dt 64 zt, oX3 y yk yn yc ya yd yl lp re wp lw, aI K yk np zk, aI K yn np zn, aI K yc np zc, aI K ya na za, aL K yd np fd, aI K yl 64 zl, aI K xc np zx]) 0 5 iX5 tyX5 tyX5_ok nmX5 rfl rfl (by decide) t1_114 rfl rfl rfl rfl (Nat.le_of_ble_eq_true rfl) dX5_endCompaction_7 rfl ?_
  refine z_aload_n F 0 dX5_endCompaction_10 rfl ?_
  refine z_get F 0 1 iX5 rfl rfl (by decide) t1_110 rfl dX5_endCompaction_11 ?_
  refine z_aload_n F 0 dX5_endCompaction_14 rfl ?_
  refine z_get F 0 13 iX5 rfl rfl (by decide) t1_122 rfl dX5_endCompaction_15 ?_
  refine z_aload_n F 0 dX5_endCompaction_18 rfl ?_
  refine z_get F 0 12 iX5 rfl rfl (by decide) t1_121 rfl dX5_endCompaction_19 ?_
  refine z_callV F lw_good (k_X3_keepOnly _ D K y yk yn yc ya yd yl lp re wp lw np na zk zn zc za fd zl xc zx cp (by omega) (by omega) h17 h8 h9 h10 h11 h12 h13 h14) t2_136 t1_4 t2_133 t2_134 (q := (RX3, TX3, 10)) t2_135 ⟨rfl, rfl⟩ ndX3_keepOnly ⟨Nat.le_of_ble_eq_true rfl, Nat.le_of_ble_eq_true rfl⟩ 0 rfl rfl (rest := []) rfl (Nat.le_of_ble_eq_true rfl) dX5_endCompaction_22 ⟨(show 0 + 0 ≤ 0 by omega), (show 0 + 0 ≤ 0 by omega)⟩ (wr := [oX5 x d y u sa ru (1 - ar) sq ge ne wa fe tk cp xc, oX0 d sc db dq dt wc, aB K db nb zb, aB K dq 32768 zq, aI K dt 64 zt]) ([5, 6, 7, 8, 9, 10, 11, 12] : List Nat) ([0, 1, 2, 3, 4] : List Nat) rfl rfl rfl rfl (by decide) (fun v wo hp => ?_)
  obtain ⟨lp2_1, wp2_2, lw2_3, zk2_4, zn2_5, zc2_6, za2_7, fd2_8, zl2_9, rfl, rfl, f10, f11, f12, f13, f14, f15, f16, f17⟩ := hp
  refine z_re F (ws' := [oX5 x d y u sa ru (1 - ar) sq ge ne wa fe tk cp xc, oX0 d sc db dq dt wc, aB K db nb zb, aB K dq 32768 zq, aI K dt 64 zt, oX3 y yk yn yc ya yd yl lp2_1 cp wp2_2 lw2_3, aI K yk np zk2_4, aI K yn np zn2_5, aI K yc np zc2_6, aI K ya na za2_7, aL K yd np fd2_8, aI K yl 64 zl2_9, aI K xc np zx]) (st' := []) ([0, 1, 2, 3, 4, 5, 6, 7, 8, 9, 10, 11, 12] : List Nat) rfl rfl rfl ?_
  refine z_aload_n F 0 dX5_endCompaction_25 rfl ?_
  refine z_aload_n F 0 dX5_endCompaction_26 rfl ?_
  refine z_get F 0 12 iX5 rfl rfl (by decide) t1_121 rfl dX5_endCompaction_27 ?_
  refine z_put F (ws' := [oX5 x d y u sa ru (1 - ar) sq ge ne wa cp tk cp xc, oX0 d sc db dq dt wc, aB K db nb zb, aB K dq 32768 zq, aI K dt 64 zt, oX3 y yk yn yc ya yd yl lp2_1 cp wp2_2 lw2_3, aI K yk np zk2_4, aI K yn np zn2_5, aI K yc np zc2_6, aI K ya na za2_7, aL K yd np fd2_8, aI K yl 64 zl2_9, aI K xc np zx]) 0 10 iX5 tyX5 tyX5_ok nmX5 rfl rfl (by decide) t1_119 rfl rfl rfl rfl (Nat.le_of_ble_eq_true rfl) dX5_endCompaction_30 rfl ?_
  refine z_aload_n F 0 dX5_endCompaction_33 rfl ?_
  refine z_iconst F dX5_endCompaction_34 ?_
  refine z_put F (ws' := [oX5 x d y u sa ru (1 - ar) sq ge ne wa cp (-1) cp xc, oX0 d sc db dq dt wc, aB K db nb zb, aB K dq 32768 zq, aI K dt 64 zt, oX3 y yk yn yc ya yd yl lp2_1 cp wp2_2 lw2_3, aI K yk np zk2_4, aI K yn np zn2_5, aI K yc np zc2_6, aI K ya na za2_7, aL K yd np fd2_8, aI K yl 64 zl2_9, aI K xc np zx]) 0 11 iX5 tyX5 tyX5_ok nmX5 rfl rfl (by decide) t1_120 rfl rfl rfl rfl (Nat.le_of_ble_eq_true rfl) dX5_endCompaction_35 rfl ?_
  refine z_aload_n F 0 dX5_endCompaction_38 rfl ?_
  refine z_callV F lw_good (k_X5_changeHeads _ D K x y u sa ru (1 - ar) sq ge ne wa cp (-1) cp xc d sc db dq dt wc nb zb zq zt h0 h3 h4 h5 h2 (by omega)) t2_27 t1_1 t2_24 t2_26 (q := (RX5, TX5, 14)) ts_9 ⟨rfl, rfl⟩ ndX5_changeHeads ⟨Nat.le_of_ble_eq_true rfl, Nat.le_of_ble_eq_true rfl⟩ 0 rfl rfl (rest := []) rfl (Nat.le_of_ble_eq_true rfl) dX5_endCompaction_39 ⟨(show 0 + 0 ≤ 0 by omega), (show 0 + 0 ≤ 0 by omega)⟩ (wr := [oX3 y yk yn yc ya yd yl lp2_1 cp wp2_2 lw2_3, aI K yk np zk2_4, aI K yn np zn2_5, aI K yc np zc2_6, aI K ya na za2_7, aL K yd np fd2_8, aI K yl 64 zl2_9, aI K xc np zx]) ([0, 1, 2, 3, 4] : List Nat) ([5, 6, 7, 8, 9, 10, 11, 12] : List Nat) rfl rfl rfl rfl (by decide) (fun v wo hp => ?_)
  obtain ⟨sq2_18, wc2_19, zb2_20, zq2_21, zt2_22, rfl, rfl, f23, f24, f25, f26⟩ := hp
  refine z_re F (ws' := [oX5 x d y u sa ru (1 - ar) sq2_18 ge ne wa cp (-1) cp xc, oX0 d sc db dq dt wc2_19, aB K db nb zb2_20, aB K dq 32768 zq2_21, aI K dt 64 zt2_22, oX3 y yk yn yc ya yd yl lp2_1 cp wp2_2 lw2_3, aI K yk np zk2_4, aI K yn np zn2_5, aI K yc np zc2_6, aI K ya na za2_7, aL K yd np fd2_8, aI K yl 64 zl2_9, aI K xc np zx]) (st' := []) ([8, 9, 10, 11, 12, 0, 1, 2, 3, 4, 5, 6, 7] : List Nat) rfl rfl rfl ?_
  exact z_vret F hr dX5_endCompaction_42 (by omega) ⟨sq2_18, wc2_19, zb2_20, zq2_21, zt2_22, lp2_1, wp2_2, lw2_3, zk2_4, zn2_5, zc2_6, za2_7, fd2_8, zl2_9, rfl, rfl, f23, f24, f25, f26, f10, f11, f12, f13, f14, f15, f16, f17⟩
set_option maxHeartbeats 4000000 in
set_option maxRecDepth 20000 in
theorem k_X5_doStep (l : Launch) (D : va_G) (K : KI) (x : Nat) (sa : Int) (ru : Int) (ar : Int) (sq : Int) (ge : Int) (ne : Int) (wa : Int) (fe : Int) (tk : Int) (cp : Int) (xc : Nat) (u : Nat) (d : Nat) (sc : Int) (db : Nat) (dq : Nat) (dt : Nat) (wc : Int) (nb : Nat) (zb : Nat → Int) (zq : Nat → Int) (zt : Nat → Int) (y : Nat) (yk : Nat) (yn : Nat) (yc : Nat) (ya : Nat) (yd : Nat) (yl : Nat) (lp : Int) (re : Int) (wp : Int) (lw : Int) (np : Nat) (na : Nat) (zk : Nat → Int) (zn : Nat → Int) (zc : Nat → Int) (za : Nat → Int) (fd : Nat → Int64) (zl : Nat → Int) (zx : Nat → Int) (h0 : 4 ≤ sc ∧ sc ≤ 40 ∧ (nb : Int) = 512 * sc) (h1 : 1 ≤ sa ∧ 2 * sa ≤ sc - 2 ∧ (np : Int) = 16 * sa ∧ (na : Int) = 6 * np) (h2 : 0 ≤ wc ∧ wc ≤ 64) (h3 : rng (-128) 127 zb) (h4 : rng (-128) 127 zq) (h5 : rng 0 (sc-1) zt) (h6 : 0 ≤ re ∧ re ≤ np) (h7 : -1 ≤ lp ∧ lp ≤ np - 1 ∧ 0 ≤ wp ∧ wp ≤ re ∧ -1 ≤ lw ∧ lw ≤ np - 1) (h8 : rng 0 3 zk) (h9 : rng (-128) 127 zn) (h10 : nmOk zk zn) (h11 : rng 0 6 zc) (h12 : rng (-128) 127 za) (h13 : akOk zc za) (h14 : rng (-1) (np-1) zl) (h15 : 0 ≤ ar ∧ ar ≤ 1) (h16 : -1 ≤ tk ∧ tk ≤ re ∧ (tk = -1 ∨ (0 ≤ cp ∧ cp ≤ tk))) (h17 : rng 0 (np-1) zx) (h18 : 0 ≤ fe ∧ fe ≤ 304) : Ct lw_T l yX5_doStep cX5_doStep 1 (some .boolean) { frames := 5, cells := 0, slots := 0, locals := 133 } 0 0 D cls5 (TY K) [.ref x] [oX5 x d y u sa ru ar sq ge ne wa fe tk cp xc, oX0 d sc db dq dt wc, aB K db nb zb, aB K dq 32768 zq, aI K dt 64 zt, oX3 y yk yn yc ya yd yl lp re wp lw, aI K yk np zk, aI K yn np zn, aI K yc np zc, aI K ya na za, aL K yd np fd, aI K yl 64 zl, aI K xc np zx] (fun v wo => ∃ (r : Int), ∃ (ar2 : Int), ∃ (sq2 : Int), ∃ (fe2 : Int), ∃ (tk2 : Int), ∃ (cp2 : Int), ∃ (wc2 : Int), ∃ (zb2 : Nat → Int), ∃ (zq2 : Nat → Int), ∃ (zt2 : Nat → Int), ∃ (lp2 : Int), ∃ (re2 : Int), ∃ (wp2 : Int), ∃ (lw2 : Int), ∃ (zk2 : Nat → Int), ∃ (zn2 : Nat → Int), ∃ (zc2 : Nat → Int), ∃ (za2 : Nat → Int), ∃ (fd2 : Nat → Int64), ∃ (zl2 : Nat → Int), ∃ (zx2 : Nat → Int), v = some (.int (iZ r)) ∧ wo = [oX5 x d y u sa ru ar2 sq2 ge ne wa fe2 tk2 cp2 xc, oX0 d sc db dq dt wc2, aB K db nb zb2, aB K dq 32768 zq2, aI K dt 64 zt2, oX3 y yk yn yc ya yd yl lp2 re2 wp2 lw2, aI K yk np zk2, aI K yn np zn2, aI K yc np zc2, aI K ya na za2, aL K yd np fd2, aI K yl 64 zl2, aI K xc np zx2] ∧ (r = 0 ∨ r = 1) ∧ (0 ≤ wc2 ∧ wc2 ≤ 64) ∧ (rng (-128) 127 zb2) ∧ (rng (-128) 127 zq2) ∧ (rng 0 (sc-1) zt2) ∧ (0 ≤ re2 ∧ re2 ≤ np) ∧ (-1 ≤ lp2 ∧ lp2 ≤ np - 1 ∧ 0 ≤ wp2 ∧ wp2 ≤ re2 ∧ -1 ≤ lw2 ∧ lw2 ≤ np - 1) ∧ (rng 0 3 zk2) ∧ (rng (-128) 127 zn2) ∧ (nmOk zk2 zn2) ∧ (rng 0 6 zc2) ∧ (rng (-128) 127 za2) ∧ (akOk zc2 za2) ∧ (rng (-1) (np-1) zl2) ∧ (0 ≤ ar2 ∧ ar2 ≤ 1) ∧ (-1 ≤ tk2 ∧ tk2 ≤ re2 ∧ (tk2 = -1 ∨ (0 ≤ cp2 ∧ cp2 ≤ tk2))) ∧ (rng 0 (np-1) zx2) ∧ (0 ≤ fe2 ∧ fe2 ≤ 304)) := by
  refine ct_of (own := RX5) (lv := [(0, .ref x)]) (by decide) rfl (Nat.le_of_ble_eq_true rfl) rfl (fun C F hr hnm hzl => ?_)
  subst hzl
  refine z_aload_n F 0 dX5_doStep_0 rfl ?_
  refine z_get F 0 11 iX5 rfl rfl (by decide) t1_120 rfl dX5_doStep_1 ?_
  refine z_iconst F dX5_doStep_4 ?_
  refine z_icmp_ne F 30 dX5_doStep_5 (by decide) (by omega) (fun c1 => ?_) (fun c1 => ?_)
  · refine z_aload_n F 0 dX5_doStep_30 rfl ?_
    refine z_get F 0 11 iX5 rfl rfl (by decide) t1_120 rfl dX5_doStep_31 ?_
    refine z_aload_n F 0 dX5_doStep_34 rfl ?_
    refine z_get F 0 1 iX5 rfl rfl (by decide) t1_110 rfl dX5_doStep_35 ?_
    refine z_callV F lw_good (k_X3_end _ D K y yk yn yc ya yd yl lp re wp lw) t2_23 t1_4 t2_20 t2_21 (q := (RX3, TX3, 10)) t2_22 ⟨rfl, rfl⟩ ndX3_end ⟨Nat.le_of_ble_eq_true rfl, Nat.le_of_ble_eq_true rfl⟩ 0 rfl rfl (rest := [.int (iZ tk)]) rfl (Nat.le_of_ble_eq_true rfl) dX5_doStep_38 ⟨(show 0 + 0 ≤ 0 by omega), (show 0 + 0 ≤ 0 by omega)⟩ (wr := [oX5 x d y u sa ru ar sq ge ne wa fe tk cp xc, oX0 d sc db dq dt wc, aB K db nb zb, aB K dq 32768 zq, aI K dt 64 zt, aI K yk np zk, aI K yn np zn, aI K yc np zc, aI K ya na za, aL K yd np fd, aI K yl 64 zl, aI K xc np zx]) ([5] : List Nat) ([0, 1, 2, 3, 4, 6, 7, 8, 9, 10, 11, 12] : List Nat) rfl rfl rfl rfl (by decide) (fun v wo hp => ?_)
    obtain ⟨rfl, rfl⟩ := hp
    refine z_re F (ws' := [oX5 x d y u sa ru ar sq ge ne wa fe tk cp xc, oX0 d sc db dq dt wc, aB K db nb zb, aB K dq 32768 zq, aI K dt 64 zt, oX3 y yk yn yc ya yd yl lp re wp lw, aI K yk np zk, aI K yn np zn, aI K yc np zc, aI K ya na za, aL K yd np fd, aI K yl 64 zl, aI K xc np zx]) (st' := [.int (iZ re), .int (iZ tk)]) ([0, 1, 2, 3, 4, 12, 5, 6, 7, 8, 9, 10, 11] : List Nat) rfl rfl rfl ?_
    refine z_icmp_ge F 54 dX5_doStep_41 (by decide) (by omega) (fun c2 => ?_) (fun c2 => ?_)
    · refine z_aload_n F 0 dX5_doStep_54 rfl ?_
      refine z_callV F lw_good (k_X5_endCompaction _ D K x sa ru ar sq ge ne wa fe tk cp xc u d sc db dq dt wc nb zb zq zt y yk yn yc ya yd yl lp re wp lw np na zk zn zc za fd zl zx h0 h1 h2 h3 h4 h5 h6 h7 h8 h9 h10 h11 h12 h13 h14 h15 h16 h17 (by omega)) t2_132 t1_1 t2_129 t2_131 (q := (RX5, TX5, 14)) ts_15 ⟨rfl, rfl⟩ ndX5_endCompaction ⟨Nat.le_of_ble_eq_true rfl, Nat.le_of_ble_eq_true rfl⟩ 0 rfl rfl (rest := []) rfl (Nat.le_of_ble_eq_true rfl) dX5_doStep_55 ⟨(show 0 + 0 ≤ 0 by omega), (show 0 + 0 ≤ 0 by omega)⟩ (wr := []) ([0, 1, 2, 3, 4, 5, 6, 7, 8, 9, 10, 11, 12] : List Nat) ([] : List Nat) rfl rfl rfl rfl (by decide) (fun v wo hp => ?_)
      obtain ⟨sq2_3, wc2_4, zb2_5, zq2_6, zt2_7, lp2_8, wp2_9, lw2_10, zk2_11, zn2_12, zc2_13, za2_14, fd2_15, zl2_16, rfl, rfl, f17, f18, f19, f20, f21, f22, f23, f24, f25, f26, f27, f28⟩ := hp
      refine z_re F (ws' := [oX5 x d y u sa ru (1 - ar) sq2_3 ge ne wa cp (-1) cp xc, oX0 d sc db dq dt wc2_4, aB K db nb zb2_5, aB K dq 32768 zq2_6, aI K dt 64 zt2_7, oX3 y yk yn yc ya yd yl lp2_8 cp wp2_9 lw2_10, aI K yk np zk2_11, aI K yn np zn2_12, aI K yc np zc2_13, aI K ya na za2_14, aL K yd np fd2_15, aI K yl 64 zl2_16, aI K xc np zx]) (st' := []) ([0, 1, 2, 3, 4, 5, 6, 7, 8, 9, 10, 11, 12] : List Nat) rfl rfl rfl ?_
      refine z_iconst F dX5_doStep_58 ?_
      exact z_zret F hr (by decide) dX5_doStep_59 (by omega) ⟨1, (1 - ar), sq2_3, cp, (-1), cp, wc2_4, zb2_5, zq2_6, zt2_7, lp2_8, cp, wp2_9, lw2_10, zk2_11, zn2_12, zc2_13, za2_14, fd2_15, zl2_16, zx, rfl, rfl, (by omega), f17, f18, f19, f20, (by omega), f21, f22, f23, f24, f25, f26, f27, f28, (by omega), (by omega), h17, (by omega)⟩
    · refine z_aload_n F 0 dX5_doStep_44 rfl ?_
      refine z_aload_n F 0 dX5_doStep_45 rfl ?_
      refine z_get F 0 11 iX5 rfl rfl (by decide) t1_120 rfl dX5_doStep_46 ?_
      refine z_callV F lw_good (k_X5_takePlace _ D K x sa ru ar sq ge ne wa fe tk cp xc u d sc db dq dt wc nb zb zq zt y yk yn yc ya yd yl lp re wp lw np na zk zn zc za fd zl zx h0 h1 h2 h3 h4 h5 h6 h7 h8 h9 h10 h11 h12 h13 h14 h15 h16 h17 (by omega)) t2_120 t1_1 t2_117 t2_119 (q := (RX5, TX5, 14)) ts_14 ⟨rfl, rfl⟩ ndX5_takePlace ⟨Nat.le_of_ble_eq_true rfl, Nat.le_of_ble_eq_true rfl⟩ 0 rfl rfl (rest := []) rfl (Nat.le_of_ble_eq_true rfl) dX5_doStep_49 ⟨(show 0 + 0 ≤ 0 by omega), (show 0 + 0 ≤ 0 by omega)⟩ (wr := []) ([0, 1, 2, 3, 4, 5, 6, 7, 8, 9, 10, 11, 12] : List Nat) ([] : List Nat) rfl rfl rfl rfl (by decide) (fun v wo hp => ?_)
      obtain ⟨wc2_29, zb2_30, zq2_31, zt2_32, cp2_33, zx2_34, rfl, rfl, f35, f36, f37, f38, f39, f40⟩ := hp
      refine z_re F (ws' := [oX5 x d y u sa ru ar sq ge ne wa fe (tk + 1) cp2_33 xc, oX0 d sc db dq dt wc2_29, aB K db nb zb2_30, aB K dq 32768 zq2_31, aI K dt 64 zt2_32, oX3 y yk yn yc ya yd yl lp re wp lw, aI K yk np zk, aI K yn np zn, aI K yc np zc, aI K ya na za, aL K yd np fd, aI K yl 64 zl, aI K xc np zx2_34]) (st' := []) ([0, 1, 2, 3, 4, 5, 6, 7, 8, 9, 10, 11, 12] : List Nat) rfl rfl rfl ?_
      refine z_iconst F dX5_doStep_52 ?_
      exact z_zret F hr (by decide) dX5_doStep_53 (by omega) ⟨0, ar, sq, fe, (tk + 1), cp2_33, wc2_29, zb2_30, zq2_31, zt2_32, lp, re, wp, lw, zk, zn, zc, za, fd, zl, zx2_34, rfl, rfl, (by omega), f35, f36, f37, f38, h6, h7, h8, h9, h10, h11, h12, h13, h14, h15, (by omega), f40, h18⟩
  · refine z_aload_n F 0 dX5_doStep_8 rfl ?_
    refine z_iconst F dX5_doStep_9 ?_
    refine z_aload_n F 0 dX5_doStep_10 rfl ?_
    refine z_get F 0 5 iX5 rfl rfl (by decide) t1_114 rfl dX5_doStep_11 ?_
    refine z_isub F dX5_doStep_14 ?_
    refine z_callV F lw_good (k_X5_clearArea _ D K x y u sa ru ar sq ge ne wa fe tk cp xc d sc db dq dt wc nb zb zq zt (1 - ar) h0 h3 h4 h5 h2 (by omega) (by omega)) t1_207 t1_1 t1_204 t1_206 (q := (RX5, TX5, 14)) ts_4 ⟨rfl, rfl⟩ ndX5_clearArea ⟨Nat.le_of_ble_eq_true rfl, Nat.le_of_ble_eq_true rfl⟩ 0 rfl rfl (rest := []) rfl (Nat.le_of_ble_eq_true rfl) dX5_doStep_15 ⟨(show 0 + 0 ≤ 0 by omega), (show 0 + 0 ≤ 0 by omega)⟩ (wr := [oX3 y yk yn yc ya yd yl lp re wp lw, aI K yk np zk, aI K yn np zn, aI K yc np zc, aI K ya na za, aL K yd np fd, aI K yl 64 zl, aI K xc np zx]) ([0, 1, 2, 3, 4] : List Nat) ([5, 6, 7, 8, 9, 10, 11, 12] : List Nat) rfl rfl rfl rfl (by decide) (fun v wo hp => ?_)
    obtain ⟨wc2_41, zb2_42, zq2_43, zt2_44, rfl, rfl, f45, f46, f47, f48⟩ := hp
    refine z_re F (ws' := [oX5 x d y u sa ru ar sq ge ne wa fe tk cp xc, oX0 d sc db dq dt wc2_41, aB K db nb zb2_42, aB K dq 32768 zq2_43, aI K dt 64 zt2_44, oX3 y yk yn yc ya yd yl lp re wp lw, aI K yk np zk, aI K yn np zn, aI K yc np zc, aI K ya na za, aL K yd np fd, aI K yl 64 zl, aI K xc np zx]) (st' := []) ([8, 9, 10, 11, 12, 0, 1, 2, 3, 4, 5, 6, 7] : List Nat) rfl rfl rfl ?_
    refine z_aload_n F 0 dX5_doStep_18 rfl ?_
    refine z_iconst F dX5_doStep_19 ?_
    refine z_put F (ws' := [oX5 x d y u sa ru ar sq ge ne wa fe 0 cp xc, oX0 d sc db dq dt wc2_41, aB K db nb zb2_42, aB K dq 32768 zq2_43, aI K dt 64 zt2_44, oX3 y yk yn yc ya yd yl lp re wp lw, aI K yk np zk, aI K yn np zn, aI K yc np zc, aI K ya na za, aL K yd np fd, aI K yl 64 zl, aI K xc np zx]) 0 11 iX5 tyX5 tyX5_ok nmX5 rfl rfl (by decide) t1_120 rfl rfl rfl rfl (Nat.le_of_ble_eq_true rfl) dX5_doStep_20 rfl ?_
    refine z_aload_n F 0 dX5_doStep_23 rfl ?_
    refine z_iconst F dX5_doStep_24 ?_
    refine z_put F (ws' := [oX5 x d y u sa ru ar sq ge ne wa fe 0 0 xc, oX0 d sc db dq dt wc2_41, aB K db nb zb2_42, aB K dq 32768 zq2_43, aI K dt 64 zt2_44, oX3 y yk yn yc ya yd yl lp re wp lw, aI K yk np zk, aI K yn np zn, aI K yc np zc, aI K ya na za, aL K yd np fd, aI K yl 64 zl, aI K xc np zx]) 0 12 iX5 tyX5 tyX5_ok nmX5 rfl rfl (by decide) t1_121 rfl rfl rfl rfl (Nat.le_of_ble_eq_true rfl) dX5_doStep_25 rfl ?_
    refine z_iconst F dX5_doStep_28 ?_
    exact z_zret F hr (by decide) dX5_doStep_29 (by omega) ⟨0, ar, sq, fe, 0, 0, wc2_41, zb2_42, zq2_43, zt2_44, lp, re, wp, lw, zk, zn, zc, za, fd, zl, zx, rfl, rfl, (by omega), f45, f46, f47, f48, h6, h7, h8, h9, h10, h11, h12, h13, h14, h15, (by omega), h17, h18⟩
end
section
set_option maxHeartbeats 4000000 in
set_option maxRecDepth 20000 in
theorem k_X5_row (l : Launch) (D : va_G) (K : KI) (x : Nat) (sa : Int) (ru : Int) (ar : Int) (sq : Int) (ge : Int) (ne : Int) (wa : Int) (fe : Int) (tk : Int) (cp : Int) (xc : Nat) (u : Nat) (d : Nat) (sc : Int) (db : Nat) (dq : Nat) (dt : Nat) (wc : Int) (nb : Nat) (zb : Nat → Int) (zq : Nat → Int) (zt : Nat → Int) (y : Nat) (yk : Nat) (yn : Nat) (yc : Nat) (ya : Nat) (yd : Nat) (yl : Nat) (lp : Int) (re : Int) (wp : Int) (lw : Int) (np : Nat) (na : Nat) (zk : Nat → Int) (zn : Nat → Int) (zc : Nat → Int) (za : Nat → Int) (fd : Nat → Int64) (zl : Nat → Int) (um : Nat) (ud : Nat) (zm : Nat → Int) (fu : Nat → Int64) (zx : Nat → Int) (k : Int) (dg : Int64) (h0 : 4 ≤ sc ∧ sc ≤ 40 ∧ (nb : Int) = 512 * sc) (h1 : 1 ≤ sa ∧ 2 * sa ≤ sc - 2 ∧ (np : Int) = 16 * sa ∧ (na : Int) = 6 * np) (h2 : 0 ≤ wc ∧ wc ≤ 64) (h3 : rng (-128) 127 zb) (h4 : rng (-128) 127 zq) (h5 : rng 0 (sc-1) zt) (h6 : 0 ≤ re ∧ re ≤ np) (h7 : -1 ≤ lp ∧ lp ≤ np - 1 ∧ 0 ≤ wp ∧ wp ≤ re ∧ -1 ≤ lw ∧ lw ≤ np - 1) (h8 : rng 0 3 zk) (h9 : rng (-128) 127 zn) (h10 : nmOk zk zn) (h11 : rng 0 6 zc) (h12 : rng (-128) 127 za) (h13 : akOk zc za) (h14 : rng (-1) (np-1) zl) (h15 : 0 ≤ ar ∧ ar ≤ 1) (h16 : -1 ≤ tk ∧ tk ≤ re ∧ (tk = -1 ∨ (0 ≤ cp ∧ cp ≤ tk))) (h17 : rng 0 (np-1) zx) (h18 : 0 ≤ fe ∧ fe ≤ 304) (h19 : ru = 0 ∨ ru = 1) (h20 : ru = 0 → tk = -1) (h21 : 0 ≤ wa ∧ wa ≤ 304) (h22 : 1 ≤ ne ∧ ne ≤ 200) (h23 : rng 0 1 zm) (h24 : -2147483648 ≤ k ∧ k ≤ 2147483647) : Ct lw_T l yX5_row cX5_row 5 (some .int) { frames := 5, cells := 0, slots := 0, locals := 137 } 0 0 D cls5 (TY K) [.ref x, .int (iZ k), .long dg] [oX5 x d y u sa ru ar sq ge ne wa fe tk cp xc, oX0 d sc db dq dt wc, aB K db nb zb, aB K dq 32768 zq, aI K dt 64 zt, oX3 y yk yn yc ya yd yl lp re wp lw, aI K yk np zk, aI K yn np zn, aI K yc np zc, aI K ya na za, aL K yd np fd, aI K yl 64 zl, oX4 u um ud, aZ K um 64 zm, aL K ud 64 fu, aI K xc np zx] (fun v wo => ∃ (r : Int), ∃ (wc2 : Int), ∃ (zb2 : Nat → Int), ∃ (zq2 : Nat → Int), ∃ (zt2 : Nat → Int), ∃ (lp2 : Int), ∃ (re2 : Int), ∃ (wp2 : Int), ∃ (lw2 : Int), ∃ (zk2 : Nat → Int), ∃ (zn2 : Nat → Int), ∃ (zc2 : Nat → Int), ∃ (fd2 : Nat → Int64), ∃ (zl2 : Nat → Int), ∃ (zm2 : Nat → Int), ∃ (fu2 : Nat → Int64), v = some (.int (iZ r)) ∧ wo = [oX5 x d y u sa ru ar sq ge ne wa fe tk cp xc, oX0 d sc db dq dt wc2, aB K db nb zb2, aB K dq 32768 zq2, aI K dt 64 zt2, oX3 y yk yn yc ya yd yl lp2 re2 wp2 lw2, aI K yk np zk2, aI K yn np zn2, aI K yc np zc2, aI K ya na za, aL K yd np fd2, aI K yl 64 zl2, oX4 u um ud, aZ K um 64 zm2, aL K ud 64 fu2, aI K xc np zx] ∧ (-4 ≤ r ∧ r ≤ np - 1) ∧ (ru = 0 → ((0 ≤ k ∧ k ≤ 63 → r = -3) ∧ (¬ (0 ≤ k ∧ k ≤ 63) → r = -2))) ∧ (0 ≤ wc2 ∧ wc2 ≤ 64) ∧ (rng (-128) 127 zb2) ∧ (rng (-128) 127 zq2) ∧ (rng 0 (sc-1) zt2) ∧ (re ≤ re2) ∧ (0 ≤ re2 ∧ re2 ≤ np) ∧ (-1 ≤ lp2 ∧ lp2 ≤ np - 1 ∧ 0 ≤ wp2 ∧ wp2 ≤ re2 ∧ -1 ≤ lw2 ∧ lw2 ≤ np - 1) ∧ (rng 0 3 zk2) ∧ (rng (-128) 127 zn2) ∧ (nmOk zk2 zn2) ∧ (rng 0 6 zc2) ∧ (akOk zc2 za) ∧ (rng (-1) (np-1) zl2) ∧ (rng 0 1 zm2)) := by
  refine ct_of (own := RX5) (lv := [(0, .ref x), (1, .int (iZ k)), (2, .long dg)]) (by decide) rfl (Nat.le_of_ble_eq_true rfl) rfl (fun C F hr hnm hzl => ?_)
  subst hzl
  refine z_iload_n F 1 dX5_row_0 rfl ?_
  refine z_callS F lw_good (k_X3_isKey _ D K k h24) t2_3 t1_4 t2_45 t2_2 ⟨rfl, rfl⟩ ndX3_isKey ⟨Nat.le_of_ble_eq_true rfl, Nat.le_of_ble_eq_true rfl⟩ (rest := []) rfl (Nat.le_of_ble_eq_true rfl) dX5_row_1 ⟨(show 0 + 0 ≤ 0 by omega), (show 0 + 0 ≤ 0 by omega)⟩ (wr := [oX5 x d y u sa ru ar sq ge ne wa fe tk cp xc, oX0 d sc db dq dt wc, aB K db nb zb, aB K dq 32768 zq, aI K dt 64 zt, oX3 y yk yn yc ya yd yl lp re wp lw, aI K yk np zk, aI K yn np zn, aI K yc np zc, aI K ya na za, aL K yd np fd, aI K yl 64 zl, oX4 u um ud, aZ K um 64 zm, aL K ud 64 fu, aI K xc np zx]) ([] : List Nat) ([0, 1, 2, 3, 4, 5, 6, 7, 8, 9, 10, 11, 12, 13, 14, 15] : List Nat) rfl rfl rfl rfl (by decide) (fun v wo hp => ?_)
  obtain ⟨r_1, rfl, rfl, f2⟩ := hp
  refine z_re F (ws' := [oX5 x d y u sa ru ar sq ge ne wa fe tk cp xc, oX0 d sc db dq dt wc, aB K db nb zb, aB K dq 32768 zq, aI K dt 64 zt, oX3 y yk yn yc ya yd yl lp re wp lw, aI K yk np zk, aI K yn np zn, aI K yc np zc, aI K ya na za, aL K yd np fd, aI K yl 64 zl, oX4 u um ud, aZ K um 64 zm, aL K ud 64 fu, aI K xc np zx]) (st' := [.int (iZ r_1)]) ([0, 1, 2, 3, 4, 5, 6, 7, 8, 9, 10, 11, 12, 13, 14, 15] : List Nat) rfl rfl rfl ?_
  refine z_if_ne F 10 dX5_row_4 (by decide) (by omega) (fun c3 => ?_) (fun c3 => ?_)
  · refine z_aload_n F 0 dX5_row_10 rfl ?_
    refine z_get F 0 4 iX5 rfl rfl (by decide) t1_113 rfl dX5_row_11 ?_
    refine z_if_ne F 20 dX5_row_14 (by decide) (by omega) (fun c4 => ?_) (fun c4 => ?_)
    · refine z_aload_n F 0 dX5_row_20 rfl ?_
      refine z_iconst F dX5_row_21 ?_
      refine z_iload_n F 1 dX5_row_22 rfl ?_
      refine z_lload_n F 2 dX5_row_23 rfl ?_
      refine z_callV F lw_good (k_X5_keep _ D K x sa ru ar sq ge ne wa fe tk cp xc u d sc db dq dt wc nb zb zq zt y yk yn yc ya yd yl lp re wp lw np na zk zn zc za fd zl 1 k dg h0 h1 h2 h3 h4 h5 h6 h7 h8 h9 h10 h11 h12 h13 h14 h15 (by omega)) t2_49 t1_1 t2_46 t2_48 (q := (RX5, TX5, 14)) ts_10 ⟨rfl, rfl⟩ ndX5_keep ⟨Nat.le_of_ble_eq_true rfl, Nat.le_of_ble_eq_true rfl⟩ 0 rfl rfl (rest := []) rfl (Nat.le_of_ble_eq_true rfl) dX5_row_24 ⟨(show 0 + 0 ≤ 0 by omega), (show 0 + 0 ≤ 0 by omega)⟩ (wr := [oX4 u um ud, aZ K um 64 zm, aL K ud 64 fu, aI K xc np zx]) ([0, 1, 2, 3, 4, 5, 6, 7, 8, 9, 10, 11] : List Nat) ([12, 13, 14, 15] : List Nat) rfl rfl rfl rfl (by decide) (fun v wo hp => ?_)
      obtain ⟨r_5, wc2_6, zb2_7, zq2_8, zt2_9, lp2_10, re2_11, wp2_12, lw2_13, zk2_14, zn2_15, zc2_16, fd2_17, zl2_18, rfl, rfl, f19, f20, f21, f22, f23, f24, f25, f26, f27, f28, f29, f30, f31, f32⟩ := hp
      refine z_re F (ws' := [oX5 x d y u sa ru ar sq ge ne wa fe tk cp xc, oX0 d sc db dq dt wc2_6, aB K db nb zb2_7, aB K dq 32768 zq2_8, aI K dt 64 zt2_9, oX3 y yk yn yc ya yd yl lp2_10 re2_11 wp2_12 lw2_13, aI K yk np zk2_14, aI K yn np zn2_15, aI K yc np zc2_16, aI K ya na za, aL K yd np fd2_17, aI K yl 64 zl2_18, oX4 u um ud, aZ K um 64 zm, aL K ud 64 fu, aI K xc np zx]) (st' := [.int (iZ r_5)]) ([4, 5, 6, 7, 8, 9, 10, 11, 12, 13, 14, 15, 0, 1, 2, 3] : List Nat) rfl rfl rfl ?_
      refine z_istore F (lv' := [(4, .int (iZ r_5)), (0, .ref x), (1, .int (iZ k)), (2, .long dg)]) dX5_row_27 (by decide) rfl ?_
      refine z_iload F 0 dX5_row_29 rfl ?_
      refine z_iconst F dX5_row_31 ?_
      refine z_icmp_ne F 47 dX5_row_32 (by decide) (by omega) (fun c33 => ?_) (fun c33 => ?_)
      · refine z_aload_n F 1 dX5_row_47 rfl ?_
        refine z_get F 0 2 iX5 rfl rfl (by decide) t1_111 rfl dX5_row_48 ?_
        refine z_iload_n F 2 dX5_row_51 rfl ?_
        refine z_callV F lw_good (k_X4_forget _ D K u um ud zm k (by omega) h23) t2_87 t1_5 t2_84 t2_85 (q := (RX4, TX4, 2)) t2_86 ⟨rfl, rfl⟩ ndX4_forget ⟨Nat.le_of_ble_eq_true rfl, Nat.le_of_ble_eq_true rfl⟩ 0 rfl rfl (rest := []) rfl (Nat.le_of_ble_eq_true rfl) dX5_row_52 ⟨(show 0 + 0 ≤ 0 by omega), (show 0 + 0 ≤ 0 by omega)⟩ (wr := [oX5 x d y u sa ru ar sq ge ne wa fe tk cp xc, oX0 d sc db dq dt wc2_6, aB K db nb zb2_7, aB K dq 32768 zq2_8, aI K dt 64 zt2_9, oX3 y yk yn yc ya yd yl lp2_10 re2_11 wp2_12 lw2_13, aI K yk np zk2_14, aI K yn np zn2_15, aI K yc np zc2_16, aI K ya na za, aL K yd np fd2_17, aI K yl 64 zl2_18, aL K ud 64 fu, aI K xc np zx]) ([12, 13] : List Nat) ([0, 1, 2, 3, 4, 5, 6, 7, 8, 9, 10, 11, 14, 15] : List Nat) rfl rfl rfl rfl (by decide) (fun v wo hp => ?_)
        obtain ⟨zm2_34, rfl, rfl, f35⟩ := hp
        refine z_re F (ws' := [oX5 x d y u sa ru ar sq ge ne wa fe tk cp xc, oX0 d sc db dq dt wc2_6, aB K db nb zb2_7, aB K dq 32768 zq2_8, aI K dt 64 zt2_9, oX3 y yk yn yc ya yd yl lp2_10 re2_11 wp2_12 lw2_13, aI K yk np zk2_14, aI K yn np zn2_15, aI K yc np zc2_16, aI K ya na za, aL K yd np fd2_17, aI K yl 64 zl2_18, oX4 u um ud, aZ K um 64 zm2_34, aL K ud 64 fu, aI K xc np zx]) (st' := []) ([0, 1, 2, 3, 4, 5, 6, 7, 8, 9, 10, 11, 14, 15, 12, 13] : List Nat) rfl rfl rfl ?_
        refine z_iload F 0 dX5_row_55 rfl ?_
        exact z_iret F hr dX5_row_57 (by omega) ⟨r_5, wc2_6, zb2_7, zq2_8, zt2_9, lp2_10, re2_11, wp2_12, lw2_13, zk2_14, zn2_15, zc2_16, fd2_17, zl2_18, zm2_34, fu, rfl, rfl, (by omega), (by omega), f20, f21, f22, f23, f24, f25, f26, f27, f28, f29, f30, f31, f32, f35⟩
      · refine z_aload_n F 1 dX5_row_35 rfl ?_
        refine z_get F 0 2 iX5 rfl rfl (by decide) t1_111 rfl dX5_row_36 ?_
        refine z_iload_n F 2 dX5_row_39 rfl ?_
        refine z_lload_n F 3 dX5_row_40 rfl ?_
        refine z_callV F lw_good (k_X4_put _ D K u um ud zm fu k dg (by omega) h23) t2_83 t1_5 t2_80 t2_81 (q := (RX4, TX4, 2)) t2_82 ⟨rfl, rfl⟩ ndX4_put ⟨Nat.le_of_ble_eq_true rfl, Nat.le_of_ble_eq_true rfl⟩ 0 rfl rfl (rest := []) rfl (Nat.le_of_ble_eq_true rfl) dX5_row_41 ⟨(show 0 + 0 ≤ 0 by omega), (show 0 + 0 ≤ 0 by omega)⟩ (wr := [oX5 x d y u sa ru ar sq ge ne wa fe tk cp xc, oX0 d sc db dq dt wc2_6, aB K db nb zb2_7, aB K dq 32768 zq2_8, aI K dt 64 zt2_9, oX3 y yk yn yc ya yd yl lp2_10 re2_11 wp2_12 lw2_13, aI K yk np zk2_14, aI K yn np zn2_15, aI K yc np zc2_16, aI K ya na za, aL K yd np fd2_17, aI K yl 64 zl2_18, aI K xc np zx]) ([12, 13, 14] : List Nat) ([0, 1, 2, 3, 4, 5, 6, 7, 8, 9, 10, 11, 15] : List Nat) rfl rfl rfl rfl (by decide) (fun v wo hp => ?_)
        obtain ⟨zm2_36, fu2_37, rfl, rfl, f38⟩ := hp
        refine z_re F (ws' := [oX5 x d y u sa ru ar sq ge ne wa fe tk cp xc, oX0 d sc db dq dt wc2_6, aB K db nb zb2_7, aB K dq 32768 zq2_8, aI K dt 64 zt2_9, oX3 y yk yn yc ya yd yl lp2_10 re2_11 wp2_12 lw2_13, aI K yk np zk2_14, aI K yn np zn2_15, aI K yc np zc2_16, aI K ya na za, aL K yd np fd2_17, aI K yl 64 zl2_18, oX4 u um ud, aZ K um 64 zm2_36, aL K ud 64 fu2_37, aI K xc np zx]) (st' := []) ([0, 1, 2, 3, 4, 5, 6, 7, 8, 9, 10, 11, 13, 14, 15, 12] : List Nat) rfl rfl rfl ?_
        refine z_bipush F dX5_row_44 (by decide) ?_
        exact z_iret F hr dX5_row_46 (by omega) ⟨(-4), wc2_6, zb2_7, zq2_8, zt2_9, lp2_10, re2_11, wp2_12, lw2_13, zk2_14, zn2_15, zc2_16, fd2_17, zl2_18, zm2_36, fu2_37, rfl, rfl, (by omega), (by omega), f20, f21, f22, f23, f24, f25, f26, f27, f28, f29, f30, f31, f32, f38⟩
    · refine z_bipush F dX5_row_17 (by decide) ?_
      exact z_iret F hr dX5_row_19 (by omega) ⟨(-3), wc, zb, zq, zt, lp, re, wp, lw, zk, zn, zc, fd, zl, zm, fu, rfl, rfl, (by omega), (by omega), h2, h3, h4, h5, (by omega), h6, h7, h8, h9, h10, h11, h13, h14, h23⟩
  · refine z_bipush F dX5_row_7 (by decide) ?_
    exact z_iret F hr dX5_row_9 (by omega) ⟨(-2), wc, zb, zq, zt, lp, re, wp, lw, zk, zn, zc, fd, zl, zm, fu, rfl, rfl, (by omega), (by omega), h2, h3, h4, h5, (by omega), h6, h7, h8, h9, h10, h11, h13, h14, h23⟩
set_option maxHeartbeats 4000000 in
set_option maxRecDepth 20000 in
theorem k_X5_asks (l : Launch) (D : va_G) (K : KI) (x : Nat) (sa : Int) (ru : Int) (ar : Int) (sq : Int) (ge : Int) (ne : Int) (wa : Int) (fe : Int) (tk : Int) (cp : Int) (xc : Nat) (u : Nat) (d : Nat) (sc : Int) (db : Nat) (dq : Nat) (dt : Nat) (wc : Int) (nb : Nat) (zb : Nat → Int) (zq : Nat → Int) (zt : Nat → Int) (y : Nat) (yk : Nat) (yn : Nat) (yc : Nat) (ya : Nat) (yd : Nat) (yl : Nat) (lp : Int) (re : Int) (wp : Int) (lw : Int) (np : Nat) (na : Nat) (zk : Nat → Int) (zn : Nat → Int) (zc : Nat → Int) (za : Nat → Int) (fd : Nat → Int64) (zl : Nat → Int) (um : Nat) (ud : Nat) (zm : Nat → Int) (fu : Nat → Int64) (zx : Nat → Int) (rw : Int) (k : Int) (h0 : 4 ≤ sc ∧ sc ≤ 40 ∧ (nb : Int) = 512 * sc) (h1 : 1 ≤ sa ∧ 2 * sa ≤ sc - 2 ∧ (np : Int) = 16 * sa ∧ (na : Int) = 6 * np) (h2 : 0 ≤ wc ∧ wc ≤ 64) (h3 : rng (-128) 127 zb) (h4 : rng (-128) 127 zq) (h5 : rng 0 (sc-1) zt) (h6 : 0 ≤ re ∧ re ≤ np) (h7 : -1 ≤ lp ∧ lp ≤ np - 1 ∧ 0 ≤ wp ∧ wp ≤ re ∧ -1 ≤ lw ∧ lw ≤ np - 1) (h8 : rng 0 3 zk) (h9 : rng (-128) 127 zn) (h10 : nmOk zk zn) (h11 : rng 0 6 zc) (h12 : rng (-128) 127 za) (h13 : akOk zc za) (h14 : rng (-1) (np-1) zl) (h15 : 0 ≤ ar ∧ ar ≤ 1) (h16 : -1 ≤ tk ∧ tk ≤ re ∧ (tk = -1 ∨ (0 ≤ cp ∧ cp ≤ tk))) (h17 : rng 0 (np-1) zx) (h18 : 0 ≤ fe ∧ fe ≤ 304) (h19 : ru = 0 ∨ ru = 1) (h20 : ru = 0 → tk = -1) (h21 : 0 ≤ wa ∧ wa ≤ 304) (h22 : 1 ≤ ne ∧ ne ≤ 200) (h23 : rng 0 1 zm) (h24 : -2147483648 ≤ rw ∧ rw ≤ 2147483647) (h25 : -2147483648 ≤ k ∧ k ≤ 2147483647) : Ct lw_T l yX5_asks cX5_asks 3 (some .int) { frames := 4, cells := 0, slots := 0, locals := 112 } 0 0 D cls5 (TY K) [.ref x, .int (iZ rw), .int (iZ k)] [oX5 x d y u sa ru ar sq ge ne wa fe tk cp xc, oX0 d sc db dq dt wc, aB K db nb zb, aB K dq 32768 zq, aI K dt 64 zt, oX3 y yk yn yc ya yd yl lp re wp lw, aI K yk np zk, aI K yn np zn, aI K yc np zc, aI K ya na za, aL K yd np fd, aI K yl 64 zl, oX4 u um ud, aZ K um 64 zm, aL K ud 64 fu, aI K xc np zx] (fun v wo => ∃ (r : Int), ∃ (wc2 : Int), ∃ (zb2 : Nat → Int), ∃ (zq2 : Nat → Int), ∃ (zt2 : Nat → Int), ∃ (zc2 : Nat → Int), ∃ (za2 : Nat → Int), v = some (.int (iZ r)) ∧ wo = [oX5 x d y u sa ru ar sq ge ne wa fe tk cp xc, oX0 d sc db dq dt wc2, aB K db nb zb2, aB K dq 32768 zq2, aI K dt 64 zt2, oX3 y yk yn yc ya yd yl lp re wp lw, aI K yk np zk, aI K yn np zn, aI K yc np zc2, aI K ya na za2, aL K yd np fd, aI K yl 64 zl, oX4 u um ud, aZ K um 64 zm, aL K ud 64 fu, aI K xc np zx] ∧ (-4 ≤ r ∧ r ≤ 6) ∧ (ru = 0 → r = -1) ∧ (0 ≤ wc2 ∧ wc2 ≤ 64) ∧ (rng (-128) 127 zb2) ∧ (rng (-128) 127 zq2) ∧ (rng 0 (sc-1) zt2) ∧ (rng 0 6 zc2) ∧ (rng (-128) 127 za2) ∧ (akOk zc2 za2)) := by
  refine ct_of (own := RX5) (lv := [(0, .ref x), (1, .int (iZ rw)), (2, .int (iZ k))]) (by decide) rfl (Nat.le_of_ble_eq_true rfl) rfl (fun C F hr hnm hzl => ?_)
  subst hzl
  refine z_aload_n F 0 dX5_asks_0 rfl ?_
  refine z_get F 0 4 iX5 rfl rfl (by decide) t1_113 rfl dX5_asks_1 ?_
  refine z_if_eq F 19 dX5_asks_4 (by decide) (by omega) (fun c1 => ?_) (fun c1 => ?_)
  · refine z_iconst F dX5_asks_19 ?_
    exact z_iret F hr dX5_asks_20 (by omega) ⟨(-1), wc, zb, zq, zt, zc, za, rfl, rfl, (by omega), (by omega), h2, h3, h4, h5, h11, h12, h13⟩
  · refine z_aload_n F 0 dX5_asks_7 rfl ?_
    refine z_get F 0 1 iX5 rfl rfl (by decide) t1_110 rfl dX5_asks_8 ?_
    refine z_iload_n F 1 dX5_asks_11 rfl ?_
    refine z_callV F lw_good (k_X3_kindAt _ D K y yk yn yc ya yd yl lp re wp lw np zk rw (by omega) h6 h8 h24) t2_95 t1_4 t2_92 t2_93 (q := (RX3, TX3, 10)) t2_94 ⟨rfl, rfl⟩ ndX3_kindAt ⟨Nat.le_of_ble_eq_true rfl, Nat.le_of_ble_eq_true rfl⟩ 0 rfl rfl (rest := []) rfl (Nat.le_of_ble_eq_true rfl) dX5_asks_12 ⟨(show 0 + 0 ≤ 0 by omega), (show 0 + 0 ≤ 0 by omega)⟩ (wr := [oX5 x d y u sa ru ar sq ge ne wa fe tk cp xc, oX0 d sc db dq dt wc, aB K db nb zb, aB K dq 32768 zq, aI K dt 64 zt, aI K yn np zn, aI K yc np zc, aI K ya na za, aL K yd np fd, aI K yl 64 zl, oX4 u um ud, aZ K um 64 zm, aL K ud 64 fu, aI K xc np zx]) ([5, 6] : List Nat) ([0, 1, 2, 3, 4, 7, 8, 9, 10, 11, 12, 13, 14, 15] : List Nat) rfl rfl rfl rfl (by decide) (fun v wo hp => ?_)
    obtain ⟨r_2, rfl, rfl, f3, f4⟩ := hp
    refine z_re F (ws' := [oX5 x d y u sa ru ar sq ge ne wa fe tk cp xc, oX0 d sc db dq dt wc, aB K db nb zb, aB K dq 32768 zq, aI K dt 64 zt, oX3 y yk yn yc ya yd yl lp re wp lw, aI K yk np zk, aI K yn np zn, aI K yc np zc, aI K ya na za, aL K yd np fd, aI K yl 64 zl, oX4 u um ud, aZ K um 64 zm, aL K ud 64 fu, aI K xc np zx]) (st' := [.int (iZ r_2)]) ([0, 1, 2, 3, 4, 14, 15, 5, 6, 7, 8, 9, 10, 11, 12, 13] : List Nat) rfl rfl rfl ?_
    refine z_iconst F dX5_asks_15 ?_
    refine z_icmp_eq F 21 dX5_asks_16 (by decide) (by omega) (fun c5 => ?_) (fun c5 => ?_)
    · refine z_iload_n F 2 dX5_asks_21 rfl ?_
      refine z_callS F lw_good (k_X3_isKey _ D K k h25) t2_3 t1_4 t2_45 t2_2 ⟨rfl, rfl⟩ ndX3_isKey ⟨Nat.le_of_ble_eq_true rfl, Nat.le_of_ble_eq_true rfl⟩ (rest := []) rfl (Nat.le_of_ble_eq_true rfl) dX5_asks_22 ⟨(show 0 + 0 ≤ 0 by omega), (show 0 + 0 ≤ 0 by omega)⟩ (wr := [oX5 x d y u sa ru ar sq ge ne wa fe tk cp xc, oX0 d sc db dq dt wc, aB K db nb zb, aB K dq 32768 zq, aI K dt 64 zt, oX3 y yk yn yc ya yd yl lp re wp lw, aI K yk np zk, aI K yn np zn, aI K yc np zc, aI K ya na za, aL K yd np fd, aI K yl 64 zl, oX4 u um ud, aZ K um 64 zm, aL K ud 64 fu, aI K xc np zx]) ([] : List Nat) ([0, 1, 2, 3, 4, 5, 6, 7, 8, 9, 10, 11, 12, 13, 14, 15] : List Nat) rfl rfl rfl rfl (by decide) (fun v wo hp => ?_)
      obtain ⟨r_6, rfl, rfl, f7⟩ := hp
      refine z_re F (ws' := [oX5 x d y u sa ru ar sq ge ne wa fe tk cp xc, oX0 d sc db dq dt wc, aB K db nb zb, aB K dq 32768 zq, aI K dt 64 zt, oX3 y yk yn yc ya yd yl lp re wp lw, aI K yk np zk, aI K yn np zn, aI K yc np zc, aI K ya na za, aL K yd np fd, aI K yl 64 zl, oX4 u um ud, aZ K um 64 zm, aL K ud 64 fu, aI K xc np zx]) (st' := [.int (iZ r_6)]) ([0, 1, 2, 3, 4, 5, 6, 7, 8, 9, 10, 11, 12, 13, 14, 15] : List Nat) rfl rfl rfl ?_
      refine z_if_ne F 31 dX5_asks_25 (by decide) (by omega) (fun c8 => ?_) (fun c8 => ?_)
      · refine z_iload_n F 1 dX5_asks_31 rfl ?_
        refine z_aload_n F 0 dX5_asks_32 rfl ?_
        refine z_get F 0 1 iX5 rfl rfl (by decide) t1_110 rfl dX5_asks_33 ?_
        refine z_callV F lw_good (k_X3_end _ D K y yk yn yc ya yd yl lp re wp lw) t2_23 t1_4 t2_20 t2_21 (q := (RX3, TX3, 10)) t2_22 ⟨rfl, rfl⟩ ndX3_end ⟨Nat.le_of_ble_eq_true rfl, Nat.le_of_ble_eq_true rfl⟩ 0 rfl rfl (rest := [.int (iZ rw)]) rfl (Nat.le_of_ble_eq_true rfl) dX5_asks_36 ⟨(show 0 + 0 ≤ 0 by omega), (show 0 + 0 ≤ 0 by omega)⟩ (wr := [oX5 x d y u sa ru ar sq ge ne wa fe tk cp xc, oX0 d sc db dq dt wc, aB K db nb zb, aB K dq 32768 zq, aI K dt 64 zt, aI K yk np zk, aI K yn np zn, aI K yc np zc, aI K ya na za, aL K yd np fd, aI K yl 64 zl, oX4 u um ud, aZ K um 64 zm, aL K ud 64 fu, aI K xc np zx]) ([5] : List Nat) ([0, 1, 2, 3, 4, 6, 7, 8, 9, 10, 11, 12, 13, 14, 15] : List Nat) rfl rfl rfl rfl (by decide) (fun v wo hp => ?_)
        obtain ⟨rfl, rfl⟩ := hp
        refine z_re F (ws' := [oX5 x d y u sa ru ar sq ge ne wa fe tk cp xc, oX0 d sc db dq dt wc, aB K db nb zb, aB K dq 32768 zq, aI K dt 64 zt, oX3 y yk yn yc ya yd yl lp re wp lw, aI K yk np zk, aI K yn np zn, aI K yc np zc, aI K ya na za, aL K yd np fd, aI K yl 64 zl, oX4 u um ud, aZ K um 64 zm, aL K ud 64 fu, aI K xc np zx]) (st' := [.int (iZ re), .int (iZ rw)]) ([0, 1, 2, 3, 4, 15, 5, 6, 7, 8, 9, 10, 11, 12, 13, 14] : List Nat) rfl rfl rfl ?_
        refine z_iconst F dX5_asks_39 ?_
        refine z_isub F dX5_asks_40 ?_
        refine z_icmp_ne F 60 dX5_asks_41 (by decide) (by omega) (fun c9 => ?_) (fun c9 => ?_)
        · refine z_bipush F dX5_asks_60 (by decide) ?_
          exact z_iret F hr dX5_asks_62 (by omega) ⟨(-3), wc, zb, zq, zt, zc, za, rfl, rfl, (by omega), (by omega), h2, h3, h4, h5, h11, h12, h13⟩
        · refine z_iload_n F 1 dX5_asks_44 rfl ?_
          refine z_aload_n F 0 dX5_asks_45 rfl ?_
          refine z_get F 0 10 iX5 rfl rfl (by decide) t1_119 rfl dX5_asks_46 ?_
          refine z_icmp_lt F 60 dX5_asks_49 (by decide) (by omega) (fun c10 => ?_) (fun c10 => ?_)
          · refine z_bipush F dX5_asks_60 (by decide) ?_
            exact z_iret F hr dX5_asks_62 (by omega) ⟨(-3), wc, zb, zq, zt, zc, za, rfl, rfl, (by omega), (by omega), h2, h3, h4, h5, h11, h12, h13⟩
          · refine z_iload_n F 1 dX5_asks_52 rfl ?_
            refine z_aload_n F 0 dX5_asks_53 rfl ?_
            refine z_get F 0 11 iX5 rfl rfl (by decide) t1_120 rfl dX5_asks_54 ?_
            refine z_icmp_ge F 63 dX5_asks_57 (by decide) (by omega) (fun c11 => ?_) (fun c11 => ?_)
            · refine z_aload_n F 0 dX5_asks_63 rfl ?_
              refine z_get F 0 1 iX5 rfl rfl (by decide) t1_110 rfl dX5_asks_64 ?_
              refine z_iload_n F 1 dX5_asks_67 rfl ?_
              refine z_callV F lw_good (k_X3_askCount _ D K y yk yn yc ya yd yl lp re wp lw np zc rw (by omega)) t2_99 t1_4 t2_96 t2_97 (q := (RX3, TX3, 10)) t2_98 ⟨rfl, rfl⟩ ndX3_askCount ⟨Nat.le_of_ble_eq_true rfl, Nat.le_of_ble_eq_true rfl⟩ 0 rfl rfl (rest := []) rfl (Nat.le_of_ble_eq_true rfl) dX5_asks_68 ⟨(show 0 + 0 ≤ 0 by omega), (show 0 + 0 ≤ 0 by omega)⟩ (wr := [oX5 x d y u sa ru ar sq ge ne wa fe tk cp xc, oX0 d sc db dq dt wc, aB K db nb zb, aB K dq 32768 zq, aI K dt 64 zt, aI K yk np zk, aI K yn np zn, aI K ya na za, aL K yd np fd, aI K yl 64 zl, oX4 u um ud, aZ K um 64 zm, aL K ud 64 fu, aI K xc np zx]) ([5, 8] : List Nat) ([0, 1, 2, 3, 4, 6, 7, 9, 10, 11, 12, 13, 14, 15] : List Nat) rfl rfl rfl rfl (by decide) (fun v wo hp => ?_)
              obtain ⟨rfl, rfl⟩ := hp
              refine z_re F (ws' := [oX5 x d y u sa ru ar sq ge ne wa fe tk cp xc, oX0 d sc db dq dt wc, aB K db nb zb, aB K dq 32768 zq, aI K dt 64 zt, oX3 y yk yn yc ya yd yl lp re wp lw, aI K yk np zk, aI K yn np zn, aI K yc np zc, aI K ya na za, aL K yd np fd, aI K yl 64 zl, oX4 u um ud, aZ K um 64 zm, aL K ud 64 fu, aI K xc np zx]) (st' := [.int (iZ (zc rw.toNat))]) ([0, 1, 2, 3, 4, 14, 5, 6, 15, 7, 8, 9, 10, 11, 12, 13] : List Nat) rfl rfl rfl ?_
              have hcr := h11 rw.toNat
              refine z_bipush F dX5_asks_71 (by decide) ?_
              refine z_icmp_lt F 79 dX5_asks_73 (by decide) (by omega) (fun c12 => ?_) (fun c12 => ?_)
              · refine z_aload_n F 0 dX5_asks_79 rfl ?_
                refine z_get F 0 1 iX5 rfl rfl (by decide) t1_110 rfl dX5_asks_80 ?_
                refine z_iload_n F 1 dX5_asks_83 rfl ?_
                refine z_iload_n F 2 dX5_asks_84 rfl ?_
                refine z_callV F lw_good (k_X3_addAsk _ D K y yk yn yc ya yd yl lp re wp lw np na zc za rw k (by omega) (by omega) (by omega) (by omega) h11 h12 h13) t2_103 t1_4 t2_100 t2_101 (q := (RX3, TX3, 10)) t2_102 ⟨rfl, rfl⟩ ndX3_addAsk ⟨Nat.le_of_ble_eq_true rfl, Nat.le_of_ble_eq_true rfl⟩ 0 rfl rfl (rest := []) rfl (Nat.le_of_ble_eq_true rfl) dX5_asks_85 ⟨(show 0 + 0 ≤ 0 by omega), (show 0 + 0 ≤ 0 by omega)⟩ (wr := [oX5 x d y u sa ru ar sq ge ne wa fe tk cp xc, oX0 d sc db dq dt wc, aB K db nb zb, aB K dq 32768 zq, aI K dt 64 zt, aI K yk np zk, aI K yn np zn, aL K yd np fd, aI K yl 64 zl, oX4 u um ud, aZ K um 64 zm, aL K ud 64 fu, aI K xc np zx]) ([5, 8, 9] : List Nat) ([0, 1, 2, 3, 4, 6, 7, 10, 11, 12, 13, 14, 15] : List Nat) rfl rfl rfl rfl (by decide) (fun v wo hp => ?_)
                obtain ⟨zc2_13, za2_14, rfl, rfl, f15, f16, f17⟩ := hp
                refine z_re F (ws' := [oX5 x d y u sa ru ar sq ge ne wa fe tk cp xc, oX0 d sc db dq dt wc, aB K db nb zb, aB K dq 32768 zq, aI K dt 64 zt, oX3 y yk yn yc ya yd yl lp re wp lw, aI K yk np zk, aI K yn np zn, aI K yc np zc2_13, aI K ya na za2_14, aL K yd np fd, aI K yl 64 zl, oX4 u um ud, aZ K um 64 zm, aL K ud 64 fu, aI K xc np zx]) (st' := []) ([0, 1, 2, 3, 4, 13, 5, 6, 14, 15, 7, 8, 9, 10, 11, 12] : List Nat) rfl rfl rfl ?_
                refine z_aload_n F 0 dX5_asks_88 rfl ?_
                refine z_iload_n F 1 dX5_asks_89 rfl ?_
                refine z_aload_n F 0 dX5_asks_90 rfl ?_
                refine z_get F 0 5 iX5 rfl rfl (by decide) t1_114 rfl dX5_asks_91 ?_
                refine z_iload_n F 1 dX5_asks_94 rfl ?_
                refine z_callV F lw_good (k_X5_writeRow _ D K x sa ru ar sq ge ne wa fe tk cp xc u d sc db dq dt wc nb zb zq zt y yk yn yc ya yd yl lp re wp lw np na zk zn zc2_13 za2_14 fd rw ar rw h0 h1 h2 h3 h4 h5 (by omega) (by omega) f15 f16) t2_61 t1_1 t2_58 t2_60 (q := (RX5, TX5, 14)) ts_11 ⟨rfl, rfl⟩ ndX5_writeRow ⟨Nat.le_of_ble_eq_true rfl, Nat.le_of_ble_eq_true rfl⟩ 0 rfl rfl (rest := []) rfl (Nat.le_of_ble_eq_true rfl) dX5_asks_95 ⟨(show 0 + 0 ≤ 0 by omega), (show 0 + 0 ≤ 0 by omega)⟩ (wr := [aI K yl 64 zl, oX4 u um ud, aZ K um 64 zm, aL K ud 64 fu, aI K xc np zx]) ([0, 1, 2, 3, 4, 5, 6, 7, 8, 9, 10] : List Nat) ([11, 12, 13, 14, 15] : List Nat) rfl rfl rfl rfl (by decide) (fun v wo hp => ?_)
                obtain ⟨wc2_18, zb2_19, zq2_20, zt2_21, rfl, rfl, f22, f23, f24, f25⟩ := hp
                refine z_re F (ws' := [oX5 x d y u sa ru ar sq ge ne wa fe tk cp xc, oX0 d sc db dq dt wc2_18, aB K db nb zb2_19, aB K dq 32768 zq2_20, aI K dt 64 zt2_21, oX3 y yk yn yc ya yd yl lp re wp lw, aI K yk np zk, aI K yn np zn, aI K yc np zc2_13, aI K ya na za2_14, aL K yd np fd, aI K yl 64 zl, oX4 u um ud, aZ K um 64 zm, aL K ud 64 fu, aI K xc np zx]) (st' := []) ([5, 6, 7, 8, 9, 10, 11, 12, 13, 14, 15, 0, 1, 2, 3, 4] : List Nat) rfl rfl rfl ?_
                refine z_aload_n F 0 dX5_asks_98 rfl ?_
                refine z_get F 0 1 iX5 rfl rfl (by decide) t1_110 rfl dX5_asks_99 ?_
                refine z_iload_n F 1 dX5_asks_102 rfl ?_
                refine z_callV F lw_good (k_X3_askCount _ D K y yk yn yc ya yd yl lp re wp lw np zc2_13 rw (by omega)) t2_99 t1_4 t2_96 t2_97 (q := (RX3, TX3, 10)) t2_98 ⟨rfl, rfl⟩ ndX3_askCount ⟨Nat.le_of_ble_eq_true rfl, Nat.le_of_ble_eq_true rfl⟩ 0 rfl rfl (rest := []) rfl (Nat.le_of_ble_eq_true rfl) dX5_asks_103 ⟨(show 0 + 0 ≤ 0 by omega), (show 0 + 0 ≤ 0 by omega)⟩ (wr := [oX5 x d y u sa ru ar sq ge ne wa fe tk cp xc, oX0 d sc db dq dt wc2_18, aB K db nb zb2_19, aB K dq 32768 zq2_20, aI K dt 64 zt2_21, aI K yk np zk, aI K yn np zn, aI K ya na za2_14, aL K yd np fd, aI K yl 64 zl, oX4 u um ud, aZ K um 64 zm, aL K ud 64 fu, aI K xc np zx]) ([5, 8] : List Nat) ([0, 1, 2, 3, 4, 6, 7, 9, 10, 11, 12, 13, 14, 15] : List Nat) rfl rfl rfl rfl (by decide) (fun v wo hp => ?_)
                obtain ⟨rfl, rfl⟩ := hp
                refine z_re F (ws' := [oX5 x d y u sa ru ar sq ge ne wa fe tk cp xc, oX0 d sc db dq dt wc2_18, aB K db nb zb2_19, aB K dq 32768 zq2_20, aI K dt 64 zt2_21, oX3 y yk yn yc ya yd yl lp re wp lw, aI K yk np zk, aI K yn np zn, aI K yc np zc2_13, aI K ya na za2_14, aL K yd np fd, aI K yl 64 zl, oX4 u um ud, aZ K um 64 zm, aL K ud 64 fu, aI K xc np zx]) (st' := [.int (iZ (zc2_13 rw.toNat))]) ([0, 1, 2, 3, 4, 14, 5, 6, 15, 7, 8, 9, 10, 11, 12, 13] : List Nat) rfl rfl rfl ?_
                have hcr2 : 0 ≤ (zc2_13 rw.toNat) ∧ (zc2_13 rw.toNat) ≤ 6 := f15 _
                exact z_iret F hr dX5_asks_106 (by omega) ⟨(zc2_13 rw.toNat), wc2_18, zb2_19, zq2_20, zt2_21, zc2_13, za2_14, rfl, rfl, (by omega), (by omega), f22, f23, f24, f25, f15, f16, f17⟩
              · refine z_bipush F dX5_asks_76 (by decide) ?_
                exact z_iret F hr dX5_asks_78 (by omega) ⟨(-4), wc, zb, zq, zt, zc, za, rfl, rfl, (by omega), (by omega), h2, h3, h4, h5, h11, h12, h13⟩
            · refine z_bipush F dX5_asks_60 (by decide) ?_
              exact z_iret F hr dX5_asks_62 (by omega) ⟨(-3), wc, zb, zq, zt, zc, za, rfl, rfl, (by omega), (by omega), h2, h3, h4, h5, h11, h12, h13⟩
      · refine z_bipush F dX5_asks_28 (by decide) ?_
        exact z_iret F hr dX5_asks_30 (by omega) ⟨(-2), wc, zb, zq, zt, zc, za, rfl, rfl, (by omega), (by omega), h2, h3, h4, h5, h11, h12, h13⟩
    · refine z_iconst F dX5_asks_19 ?_
      exact z_iret F hr dX5_asks_20 (by omega) ⟨(-1), wc, zb, zq, zt, zc, za, rfl, rfl, (by omega), (by omega), h2, h3, h4, h5, h11, h12, h13⟩
set_option maxHeartbeats 4000000 in
set_option maxRecDepth 20000 in
theorem k_X5_sync (l : Launch) (D : va_G) (K : KI) (x : Nat) (sa : Int) (ru : Int) (ar : Int) (sq : Int) (ge : Int) (ne : Int) (wa : Int) (fe : Int) (tk : Int) (cp : Int) (xc : Nat) (u : Nat) (d : Nat) (sc : Int) (db : Nat) (dq : Nat) (dt : Nat) (wc : Int) (nb : Nat) (zb : Nat → Int) (zq : Nat → Int) (zt : Nat → Int) (y : Nat) (yk : Nat) (yn : Nat) (yc : Nat) (ya : Nat) (yd : Nat) (yl : Nat) (lp : Int) (re : Int) (wp : Int) (lw : Int) (np : Nat) (na : Nat) (zk : Nat → Int) (zn : Nat → Int) (zc : Nat → Int) (za : Nat → Int) (fd : Nat → Int64) (zl : Nat → Int) (um : Nat) (ud : Nat) (zm : Nat → Int) (fu : Nat → Int64) (zx : Nat → Int) (h0 : 4 ≤ sc ∧ sc ≤ 40 ∧ (nb : Int) = 512 * sc) (h1 : 1 ≤ sa ∧ 2 * sa ≤ sc - 2 ∧ (np : Int) = 16 * sa ∧ (na : Int) = 6 * np) (h2 : 0 ≤ wc ∧ wc ≤ 64) (h3 : rng (-128) 127 zb) (h4 : rng (-128) 127 zq) (h5 : rng 0 (sc-1) zt) (h6 : 0 ≤ re ∧ re ≤ np) (h7 : -1 ≤ lp ∧ lp ≤ np - 1 ∧ 0 ≤ wp ∧ wp ≤ re ∧ -1 ≤ lw ∧ lw ≤ np - 1) (h8 : rng 0 3 zk) (h9 : rng (-128) 127 zn) (h10 : nmOk zk zn) (h11 : rng 0 6 zc) (h12 : rng (-128) 127 za) (h13 : akOk zc za) (h14 : rng (-1) (np-1) zl) (h15 : 0 ≤ ar ∧ ar ≤ 1) (h16 : -1 ≤ tk ∧ tk ≤ re ∧ (tk = -1 ∨ (0 ≤ cp ∧ cp ≤ tk))) (h17 : rng 0 (np-1) zx) (h18 : 0 ≤ fe ∧ fe ≤ 304) (h19 : ru = 0 ∨ ru = 1) (h20 : ru = 0 → tk = -1) (h21 : 0 ≤ wa ∧ wa ≤ 304) (h22 : 1 ≤ ne ∧ ne ≤ 200) (h23 : rng 0 1 zm) : Ct lw_T l yX5_sync cX5_sync 1 (some .int) { frames := 2, cells := 0, slots := 0, locals := 65 } 0 0 D cls5 (TY K) [.ref x] [oX5 x d y u sa ru ar sq ge ne wa fe tk cp xc, oX0 d sc db dq dt wc, aB K db nb zb, aB K dq 32768 zq, aI K dt 64 zt, oX3 y yk yn yc ya yd yl lp re wp lw, aI K yk np zk, aI K yn np zn, aI K yc np zc, aI K ya na za, aL K yd np fd, aI K yl 64 zl, oX4 u um ud, aZ K um 64 zm, aL K ud 64 fu, aI K xc np zx] (fun v wo => ∃ (r : Int), ∃ (fe2 : Int), ∃ (wc2 : Int), ∃ (zb2 : Nat → Int), v = some (.int (iZ r)) ∧ wo = [oX5 x d y u sa ru ar sq ge ne wa fe2 tk cp xc, oX0 d sc db dq dt wc2, aB K db nb zb2, aB K dq 32768 zq, aI K dt 64 zt, oX3 y yk yn yc ya yd yl lp re wp lw, aI K yk np zk, aI K yn np zn, aI K yc np zc, aI K ya na za, aL K yd np fd, aI K yl 64 zl, oX4 u um ud, aZ K um 64 zm, aL K ud 64 fu, aI K xc np zx] ∧ (-3 ≤ r ∧ r ≤ 64) ∧ (ru = 0 → r = -3) ∧ (0 ≤ fe2 ∧ fe2 ≤ 304) ∧ (0 ≤ wc2 ∧ wc2 ≤ 64) ∧ (rng (-128) 127 zb2)) := by
  refine ct_of (own := RX5) (lv := [(0, .ref x)]) (by decide) rfl (Nat.le_of_ble_eq_true rfl) rfl (fun C F hr hnm hzl => ?_)
  subst hzl
  refine z_aload_n F 0 dX5_sync_0 rfl ?_
  refine z_get F 0 4 iX5 rfl rfl (by decide) t1_113 rfl dX5_sync_1 ?_
  refine z_if_ne F 10 dX5_sync_4 (by decide) (by omega) (fun c1 => ?_) (fun c1 => ?_)
  · refine z_aload_n F 0 dX5_sync_10 rfl ?_
    refine z_aload_n F 0 dX5_sync_11 rfl ?_
    refine z_get F 0 1 iX5 rfl rfl (by decide) t1_110 rfl dX5_sync_12 ?_
    refine z_callV F lw_good (k_X3_end _ D K y yk yn yc ya yd yl lp re wp lw) t2_23 t1_4 t2_20 t2_21 (q := (RX3, TX3, 10)) t2_22 ⟨rfl, rfl⟩ ndX3_end ⟨Nat.le_of_ble_eq_true rfl, Nat.le_of_ble_eq_true rfl⟩ 0 rfl rfl (rest := [.ref x]) rfl (Nat.le_of_ble_eq_true rfl) dX5_sync_15 ⟨(show 0 + 0 ≤ 0 by omega), (show 0 + 0 ≤ 0 by omega)⟩ (wr := [oX5 x d y u sa ru ar sq ge ne wa fe tk cp xc, oX0 d sc db dq dt wc, aB K db nb zb, aB K dq 32768 zq, aI K dt 64 zt, aI K yk np zk, aI K yn np zn, aI K yc np zc, aI K ya na za, aL K yd np fd, aI K yl 64 zl, oX4 u um ud, aZ K um 64 zm, aL K ud 64 fu, aI K xc np zx]) ([5] : List Nat) ([0, 1, 2, 3, 4, 6, 7, 8, 9, 10, 11, 12, 13, 14, 15] : List Nat) rfl rfl rfl rfl (by decide) (fun v wo hp => ?_)
    obtain ⟨rfl, rfl⟩ := hp
    refine z_re F (ws' := [oX5 x d y u sa ru ar sq ge ne wa fe tk cp xc, oX0 d sc db dq dt wc, aB K db nb zb, aB K dq 32768 zq, aI K dt 64 zt, oX3 y yk yn yc ya yd yl lp re wp lw, aI K yk np zk, aI K yn np zn, aI K yc np zc, aI K ya na za, aL K yd np fd, aI K yl 64 zl, oX4 u um ud, aZ K um 64 zm, aL K ud 64 fu, aI K xc np zx]) (st' := [.int (iZ re), .ref x]) ([0, 1, 2, 3, 4, 15, 5, 6, 7, 8, 9, 10, 11, 12, 13, 14] : List Nat) rfl rfl rfl ?_
    refine z_put F (ws' := [oX5 x d y u sa ru ar sq ge ne wa re tk cp xc, oX0 d sc db dq dt wc, aB K db nb zb, aB K dq 32768 zq, aI K dt 64 zt, oX3 y yk yn yc ya yd yl lp re wp lw, aI K yk np zk, aI K yn np zn, aI K yc np zc, aI K ya na za, aL K yd np fd, aI K yl 64 zl, oX4 u um ud, aZ K um 64 zm, aL K ud 64 fu, aI K xc np zx]) 0 10 iX5 tyX5 tyX5_ok nmX5 rfl rfl (by decide) t1_119 rfl rfl rfl rfl (Nat.le_of_ble_eq_true rfl) dX5_sync_18 rfl ?_
    refine z_aload_n F 0 dX5_sync_21 rfl ?_
    refine z_get F 0 0 iX5 rfl rfl (by decide) t1_109 rfl dX5_sync_22 ?_
    refine z_bipush F dX5_sync_25 (by decide) ?_
    refine z_iconst F dX5_sync_27 ?_
    refine z_callV F lw_good (k_X0_bring _ D K d sc db dq dt wc nb zb zq zt 64 0 h0 h3 h4 h5 h2 (by omega)) t1_219 t1_3 t2_108 t1_217 (q := (RX0, TX0, 5)) t1_218 ⟨rfl, rfl⟩ ndX0_bring ⟨Nat.le_of_ble_eq_true rfl, Nat.le_of_ble_eq_true rfl⟩ 0 rfl rfl (rest := []) rfl (Nat.le_of_ble_eq_true rfl) dX5_sync_28 ⟨(show 0 + 0 ≤ 0 by omega), (show 0 + 0 ≤ 0 by omega)⟩ (wr := [oX5 x d y u sa ru ar sq ge ne wa re tk cp xc, oX3 y yk yn yc ya yd yl lp re wp lw, aI K yk np zk, aI K yn np zn, aI K yc np zc, aI K ya na za, aL K yd np fd, aI K yl 64 zl, oX4 u um ud, aZ K um 64 zm, aL K ud 64 fu, aI K xc np zx]) ([1, 2, 3, 4] : List Nat) ([0, 5, 6, 7, 8, 9, 10, 11, 12, 13, 14, 15] : List Nat) rfl rfl rfl rfl (by decide) (fun v wo hp => ?_)
    obtain ⟨r_2, zb2_3, rfl, rfl, f4, f5⟩ := hp
    refine z_re F (ws' := [oX5 x d y u sa ru ar sq ge ne wa re tk cp xc, oX0 d sc db dq dt 0, aB K db nb zb2_3, aB K dq 32768 zq, aI K dt 64 zt, oX3 y yk yn yc ya yd yl lp re wp lw, aI K yk np zk, aI K yn np zn, aI K yc np zc, aI K ya na za, aL K yd np fd, aI K yl 64 zl, oX4 u um ud, aZ K um 64 zm, aL K ud 64 fu, aI K xc np zx]) (st' := [.int (iZ r_2)]) ([0, 12, 13, 14, 15, 1, 2, 3, 4, 5, 6, 7, 8, 9, 10, 11] : List Nat) rfl rfl rfl ?_
    exact z_iret F hr dX5_sync_31 (by omega) ⟨r_2, re, 0, zb2_3, rfl, rfl, (by omega), (by omega), (by omega), (by omega), f5⟩
  · refine z_bipush F dX5_sync_7 (by decide) ?_
    exact z_iret F hr dX5_sync_9 (by omega) ⟨(-3), fe, wc, zb, rfl, rfl, (by omega), (by omega), h18, h2, h3⟩
set_option maxHeartbeats 4000000 in
set_option maxRecDepth 20000 in
theorem k_X5_compact (l : Launch) (D : va_G) (K : KI) (x : Nat) (sa : Int) (ru : Int) (ar : Int) (sq : Int) (ge : Int) (ne : Int) (wa : Int) (fe : Int) (tk : Int) (cp : Int) (xc : Nat) (u : Nat) (d : Nat) (sc : Int) (db : Nat) (dq : Nat) (dt : Nat) (wc : Int) (nb : Nat) (zb : Nat → Int) (zq : Nat → Int) (zt : Nat → Int) (y : Nat) (yk : Nat) (yn : Nat) (yc : Nat) (ya : Nat) (yd : Nat) (yl : Nat) (lp : Int) (re : Int) (wp : Int) (lw : Int) (np : Nat) (na : Nat) (zk : Nat → Int) (zn : Nat → Int) (zc : Nat → Int) (za : Nat → Int) (fd : Nat → Int64) (zl : Nat → Int) (um : Nat) (ud : Nat) (zm : Nat → Int) (fu : Nat → Int64) (zx : Nat → Int) (n : Int) (h0 : 4 ≤ sc ∧ sc ≤ 40 ∧ (nb : Int) = 512 * sc) (h1 : 1 ≤ sa ∧ 2 * sa ≤ sc - 2 ∧ (np : Int) = 16 * sa ∧ (na : Int) = 6 * np) (h2 : 0 ≤ wc ∧ wc ≤ 64) (h3 : rng (-128) 127 zb) (h4 : rng (-128) 127 zq) (h5 : rng 0 (sc-1) zt) (h6 : 0 ≤ re ∧ re ≤ np) (h7 : -1 ≤ lp ∧ lp ≤ np - 1 ∧ 0 ≤ wp ∧ wp ≤ re ∧ -1 ≤ lw ∧ lw ≤ np - 1) (h8 : rng 0 3 zk) (h9 : rng (-128) 127 zn) (h10 : nmOk zk zn) (h11 : rng 0 6 zc) (h12 : rng (-128) 127 za) (h13 : akOk zc za) (h14 : rng (-1) (np-1) zl) (h15 : 0 ≤ ar ∧ ar ≤ 1) (h16 : -1 ≤ tk ∧ tk ≤ re ∧ (tk = -1 ∨ (0 ≤ cp ∧ cp ≤ tk))) (h17 : rng 0 (np-1) zx) (h18 : 0 ≤ fe ∧ fe ≤ 304) (h19 : ru = 0 ∨ ru = 1) (h20 : ru = 0 → tk = -1) (h21 : 0 ≤ wa ∧ wa ≤ 304) (h22 : 1 ≤ ne ∧ ne ≤ 200) (h23 : rng 0 1 zm) (h24 : -2147483648 ≤ n ∧ n ≤ 2147483647) : Ct lw_T l yX5_compact cX5_compact 4 (some .int) { frames := 6, cells := 0, slots := 0, locals := 153 } 0 0 D cls5 (TY K) [.ref x, .int (iZ n)] [oX5 x d y u sa ru ar sq ge ne wa fe tk cp xc, oX0 d sc db dq dt wc, aB K db nb zb, aB K dq 32768 zq, aI K dt 64 zt, oX3 y yk yn yc ya yd yl lp re wp lw, aI K yk np zk, aI K yn np zn, aI K yc np zc, aI K ya na za, aL K yd np fd, aI K yl 64 zl, oX4 u um ud, aZ K um 64 zm, aL K ud 64 fu, aI K xc np zx] (fun v wo => ∃ (r : Int), ∃ (ar2 : Int), ∃ (sq2 : Int), ∃ (fe2 : Int), ∃ (tk2 : Int), ∃ (cp2 : Int), ∃ (wc2 : Int), ∃ (zb2 : Nat → Int), ∃ (zq2 : Nat → Int), ∃ (zt2 : Nat → Int), ∃ (lp2 : Int), ∃ (re2 : Int), ∃ (wp2 : Int), ∃ (lw2 : Int), ∃ (zk2 : Nat → Int), ∃ (zn2 : Nat → Int), ∃ (zc2 : Nat → Int), ∃ (za2 : Nat → Int), ∃ (fd2 : Nat → Int64), ∃ (zl2 : Nat → Int), ∃ (zx2 : Nat → Int), v = some (.int (iZ r)) ∧ wo = [oX5 x d y u sa ru ar2 sq2 ge ne wa fe2 tk2 cp2 xc, oX0 d sc db dq dt wc2, aB K db nb zb2, aB K dq 32768 zq2, aI K dt 64 zt2, oX3 y yk yn yc ya yd yl lp2 re2 wp2 lw2, aI K yk np zk2, aI K yn np zn2, aI K yc np zc2, aI K ya na za2, aL K yd np fd2, aI K yl 64 zl2, oX4 u um ud, aZ K um 64 zm, aL K ud 64 fu, aI K xc np zx2] ∧ (-3 ≤ r ∧ r ≤ 1000) ∧ (ru = 0 → ((1 ≤ n ∧ n ≤ 1000 → r = -3) ∧ (¬ (1 ≤ n ∧ n ≤ 1000) → r = -2))) ∧ (ru = 0 → tk2 = -1) ∧ (0 ≤ wc2 ∧ wc2 ≤ 64) ∧ (rng (-128) 127 zb2) ∧ (rng (-128) 127 zq2) ∧ (rng 0 (sc-1) zt2) ∧ (0 ≤ re2 ∧ re2 ≤ np) ∧ (-1 ≤ lp2 ∧ lp2 ≤ np - 1 ∧ 0 ≤ wp2 ∧ wp2 ≤ re2 ∧ -1 ≤ lw2 ∧ lw2 ≤ np - 1) ∧ (rng 0 3 zk2) ∧ (rng (-128) 127 zn2) ∧ (nmOk zk2 zn2) ∧ (rng 0 6 zc2) ∧ (rng (-128) 127 za2) ∧ (akOk zc2 za2) ∧ (rng (-1) (np-1) zl2) ∧ (0 ≤ ar2 ∧ ar2 ≤ 1) ∧ (-1 ≤ tk2 ∧ tk2 ≤ re2 ∧ (tk2 = -1 ∨ (0 ≤ cp2 ∧ cp2 ≤ tk2))) ∧ (rng 0 (np-1) zx2) ∧ (0 ≤ fe2 ∧ fe2 ≤ 304)) := by
  refine ct_of (own := RX5) (lv := [(0, .ref x), (1, .int (iZ n))]) (by decide) rfl (Nat.le_of_ble_eq_true rfl) rfl (fun C F hr hnm hzl => ?_)
  subst hzl
  refine z_iload_n F 1 dX5_compact_0 rfl ?_
  refine z_iconst F dX5_compact_1 ?_
  refine z_icmp_lt F 12 dX5_compact_2 (by decide) (by omega) (fun c1 => ?_) (fun c1 => ?_)
  · refine z_bipush F dX5_compact_12 (by decide) ?_
    exact z_iret F hr dX5_compact_14 (by omega) ⟨(-2), ar, sq, fe, tk, cp, wc, zb, zq, zt, lp, re, wp, lw, zk, zn, zc, za, fd, zl, zx, rfl, rfl, (by omega), (by omega), h20, h2, h3, h4, h5, h6, h7, h8, h9, h10, h11, h12, h13, h14, h15, h16, h17, h18⟩
  · refine z_iload_n F 1 dX5_compact_5 rfl ?_
    refine z_sipush F dX5_compact_6 (by decide) ?_
    refine z_icmp_le F 15 dX5_compact_9 (by decide) (by omega) (fun c2 => ?_) (fun c2 => ?_)
    · refine z_aload_n F 0 dX5_compact_15 rfl ?_
      refine z_get F 0 4 iX5 rfl rfl (by decide) t1_113 rfl dX5_compact_16 ?_
      refine z_if_ne F 25 dX5_compact_19 (by decide) (by omega) (fun c3 => ?_) (fun c3 => ?_)
      · refine z_iconst F dX5_compact_25 ?_
        refine z_istore_n F (lv' := [(2, .int (iZ 0)), (0, .ref x), (1, .int (iZ n))]) dX5_compact_26 (by decide) rfl ?_
        refine z_iconst F dX5_compact_27 ?_
        refine z_istore_n F (lv' := [(3, .int (iZ 0)), (2, .int (iZ 0)), (0, .ref x), (1, .int (iZ n))]) dX5_compact_28 (by decide) rfl ?_
        have lp29 : ∀ (nn : Nat) (dn : Int) (ev : Int) (arv : Int) (sqv : Int) (fev : Int) (tkv : Int) (cpv : Int) (wcv : Int) (zbv : Nat → Int) (zqv : Nat → Int) (ztv : Nat → Int) (lpv : Int) (rev : Int) (wpv : Int) (lwv : Int) (zkv : Nat → Int) (znv : Nat → Int) (zcv : Nat → Int) (zav : Nat → Int) (fdv : Nat → Int64) (zlv : Nat → Int) (zxv : Nat → Int), (0 ≤ dn ∧ dn ≤ n) → (ev = 0 ∨ ev = 1) → (0 ≤ wcv ∧ wcv ≤ 64) → (rng (-128) 127 zbv) → (rng (-128) 127 zqv) → (rng 0 (sc-1) ztv) → (0 ≤ rev ∧ rev ≤ np) → (-1 ≤ lpv ∧ lpv ≤ np - 1 ∧ 0 ≤ wpv ∧ wpv ≤ rev ∧ -1 ≤ lwv ∧ lwv ≤ np - 1) → (rng 0 3 zkv) → (rng (-128) 127 znv) → (nmOk zkv znv) → (rng 0 6 zcv) → (rng (-128) 127 zav) → (akOk zcv zav) → (rng (-1) (np-1) zlv) → (0 ≤ arv ∧ arv ≤ 1) → (-1 ≤ tkv ∧ tkv ≤ rev ∧ (tkv = -1 ∨ (0 ≤ cpv ∧ cpv ≤ tkv))) → (rng 0 (np-1) zxv) → (0 ≤ fev ∧ fev ≤ 304) → ((n - dn : Int).toNat < nn) → Go C { frames := 6, cells := 0, slots := 0, locals := 153 } D cls5 4 0 0 [oX5 x d y u sa ru arv sqv ge ne wa fev tkv cpv xc, oX0 d sc db dq dt wcv, aB K db nb zbv, aB K dq 32768 zqv, aI K dt 64 ztv, oX3 y yk yn yc ya yd yl lpv rev wpv lwv, aI K yk np zkv, aI K yn np znv, aI K yc np zcv, aI K ya na zav, aL K yd np fdv, aI K yl 64 zlv, oX4 u um ud, aZ K um 64 zm, aL K ud 64 fu, aI K xc np zxv] 29 [(3, .int (iZ ev)), (2, .int (iZ dn)), (0, .ref x), (1, .int (iZ n))] [] := by
          intro nn
          induction nn with
          | zero => intro dn ev arv sqv fev tkv cpv wcv zbv zqv ztv lpv rev wpv lwv zkv znv zcv zav fdv zlv zxv g29_0 g29_1 g29_2 g29_3 g29_4 g29_5 g29_6 g29_7 g29_8 g29_9 g29_10 g29_11 g29_12 g29_13 g29_14 g29_15 g29_16 g29_17 g29_18 hmu; exact absurd hmu (Nat.not_lt_zero _)
          | succ nn ih =>
            intro dn ev arv sqv fev tkv cpv wcv zbv zqv ztv lpv rev wpv lwv zkv znv zcv zav fdv zlv zxv g29_0 g29_1 g29_2 g29_3 g29_4 g29_5 g29_6 g29_7 g29_8 g29_9 g29_10 g29_11 g29_12 g29_13 g29_14 g29_15 g29_16 g29_17 g29_18 hmu
            refine z_iload_n F 1 dX5_compact_29 rfl ?_
            refine z_iload_n F 3 dX5_compact_30 rfl ?_
            refine z_icmp_ge F 49 dX5_compact_31 (by decide) (by omega) (fun c4 => ?_) (fun c4 => ?_)
            · refine z_iload_n F 1 dX5_compact_49 rfl ?_
              exact z_iret F hr dX5_compact_50 (by omega) ⟨dn, arv, sqv, fev, tkv, cpv, wcv, zbv, zqv, ztv, lpv, rev, wpv, lwv, zkv, znv, zcv, zav, fdv, zlv, zxv, rfl, rfl, (by omega), (by omega), (by omega), g29_2, g29_3, g29_4, g29_5, g29_6, g29_7, g29_8, g29_9, g29_10, g29_11, g29_12, g29_13, g29_14, g29_15, g29_16, g29_17, g29_18⟩
            · refine z_iload_n F 0 dX5_compact_34 rfl ?_
              refine z_if_ne F 49 dX5_compact_35 (by decide) (by omega) (fun c5 => ?_) (fun c5 => ?_)
              · refine z_iload_n F 1 dX5_compact_49 rfl ?_
                exact z_iret F hr dX5_compact_50 (by omega) ⟨dn, arv, sqv, fev, tkv, cpv, wcv, zbv, zqv, ztv, lpv, rev, wpv, lwv, zkv, znv, zcv, zav, fdv, zlv, zxv, rfl, rfl, (by omega), (by omega), (by omega), g29_2, g29_3, g29_4, g29_5, g29_6, g29_7, g29_8, g29_9, g29_10, g29_11, g29_12, g29_13, g29_14, g29_15, g29_16, g29_17, g29_18⟩
              · refine z_aload_n F 2 dX5_compact_38 rfl ?_
                refine z_callV F lw_good (k_X5_doStep _ D K x sa ru arv sqv ge ne wa fev tkv cpv xc u d sc db dq dt wcv nb zbv zqv ztv y yk yn yc ya yd yl lpv rev wpv lwv np na zkv znv zcv zav fdv zlv zxv h0 h1 g29_2 g29_3 g29_4 g29_5 g29_6 g29_7 g29_8 g29_9 g29_10 g29_11 g29_12 g29_13 g29_14 g29_15 g29_16 g29_17 g29_18) t2_116 t1_1 t2_113 t2_115 (q := (RX5, TX5, 14)) ts_13 ⟨rfl, rfl⟩ ndX5_doStep ⟨Nat.le_of_ble_eq_true rfl, Nat.le_of_ble_eq_true rfl⟩ 0 rfl rfl (rest := []) rfl (Nat.le_of_ble_eq_true rfl) dX5_compact_39 ⟨(show 0 + 0 ≤ 0 by omega), (show 0 + 0 ≤ 0 by omega)⟩ (wr := [oX4 u um ud, aZ K um 64 zm, aL K ud 64 fu]) ([0, 1, 2, 3, 4, 5, 6, 7, 8, 9, 10, 11, 15] : List Nat) ([12, 13, 14] : List Nat) rfl rfl rfl rfl (by decide) (fun v wo hp => ?_)
                obtain ⟨r_6, ar2_7, sq2_8, fe2_9, tk2_10, cp2_11, wc2_12, zb2_13, zq2_14, zt2_15, lp2_16, re2_17, wp2_18, lw2_19, zk2_20, zn2_21, zc2_22, za2_23, fd2_24, zl2_25, zx2_26, rfl, rfl, f27, f28, f29, f30, f31, f32, f33, f34, f35, f36, f37, f38, f39, f40, f41, f42, f43, f44⟩ := hp
                refine z_re F (ws' := [oX5 x d y u sa ru ar2_7 sq2_8 ge ne wa fe2_9 tk2_10 cp2_11 xc, oX0 d sc db dq dt wc2_12, aB K db nb zb2_13, aB K dq 32768 zq2_14, aI K dt 64 zt2_15, oX3 y yk yn yc ya yd yl lp2_16 re2_17 wp2_18 lw2_19, aI K yk np zk2_20, aI K yn np zn2_21, aI K yc np zc2_22, aI K ya na za2_23, aL K yd np fd2_24, aI K yl 64 zl2_25, oX4 u um ud, aZ K um 64 zm, aL K ud 64 fu, aI K xc np zx2_26]) (st' := [.int (iZ r_6)]) ([3, 4, 5, 6, 7, 8, 9, 10, 11, 12, 13, 14, 0, 1, 2, 15] : List Nat) rfl rfl rfl ?_
                refine z_istore_n F (lv' := [(3, .int (iZ r_6)), (2, .int (iZ dn)), (0, .ref x), (1, .int (iZ n))]) dX5_compact_42 (by decide) rfl ?_
                refine z_iinc F (lv' := [(2, .int (iZ (dn + 1))), (3, .int (iZ r_6)), (0, .ref x), (1, .int (iZ n))]) 1 dX5_compact_43 rfl (by decide) rfl ?_
                refine z_goto F 29 dX5_compact_46 (by decide) ?_
                refine z_lv F (lv' := [(3, .int (iZ r_6)), (2, .int (iZ (dn + 1))), (0, .ref x), (1, .int (iZ n))]) [1, 0, 2, 3] rfl ?_
                exact ih (dn + 1) r_6 ar2_7 sq2_8 fe2_9 tk2_10 cp2_11 wc2_12 zb2_13 zq2_14 zt2_15 lp2_16 re2_17 wp2_18 lw2_19 zk2_20 zn2_21 zc2_22 za2_23 fd2_24 zl2_25 zx2_26 (by omega) f27 f28 f29 f30 f31 f32 f33 f34 f35 f36 f37 f38 f39 f40 f41 f42 f43 f44 (by omega)
        exact lp29 ((n - 0 : Int).toNat + 1) 0 0 ar sq fe tk cp wc zb zq zt lp re wp lw zk zn zc za fd zl zx (by omega) (by omega) h2 h3 h4 h5 h6 h7 h8 h9 h10 h11 h12 h13 h14 h15 h16 h17 h18 (Nat.lt_succ_self _)
      · refine z_bipush F dX5_compact_22 (by decide) ?_
        exact z_iret F hr dX5_compact_24 (by omega) ⟨(-3), ar, sq, fe, tk, cp, wc, zb, zq, zt, lp, re, wp, lw, zk, zn, zc, za, fd, zl, zx, rfl, rfl, (by omega), (by omega), h20, h2, h3, h4, h5, h6, h7, h8, h9, h10, h11, h12, h13, h14, h15, h16, h17, h18⟩
    · refine z_bipush F dX5_compact_12 (by decide) ?_
      exact z_iret F hr dX5_compact_14 (by omega) ⟨(-2), ar, sq, fe, tk, cp, wc, zb, zq, zt, lp, re, wp, lw, zk, zn, zc, za, fd, zl, zx, rfl, rfl, (by omega), (by omega), h20, h2, h3, h4, h5, h6, h7, h8, h9, h10, h11, h12, h13, h14, h15, h16, h17, h18⟩
set_option maxHeartbeats 4000000 in
set_option maxRecDepth 20000 in
theorem k_X5_cut (l : Launch) (D : va_G) (K : KI) (x : Nat) (sa : Int) (ru : Int) (ar : Int) (sq : Int) (ge : Int) (ne : Int) (wa : Int) (fe : Int) (tk : Int) (cp : Int) (xc : Nat) (u : Nat) (d : Nat) (sc : Int) (db : Nat) (dq : Nat) (dt : Nat) (wc : Int) (nb : Nat) (zb : Nat → Int) (zq : Nat → Int) (zt : Nat → Int) (y : Nat) (yk : Nat) (yn : Nat) (yc : Nat) (ya : Nat) (yd : Nat) (yl : Nat) (lp : Int) (re : Int) (wp : Int) (lw : Int) (np : Nat) (na : Nat) (zk : Nat → Int) (zn : Nat → Int) (zc : Nat → Int) (za : Nat → Int) (fd : Nat → Int64) (zl : Nat → Int) (um : Nat) (ud : Nat) (zm : Nat → Int) (fu : Nat → Int64) (zx : Nat → Int) (kp : Int) (te : Int) (h0 : 4 ≤ sc ∧ sc ≤ 40 ∧ (nb : Int) = 512 * sc) (h1 : 1 ≤ sa ∧ 2 * sa ≤ sc - 2 ∧ (np : Int) = 16 * sa ∧ (na : Int) = 6 * np) (h2 : 0 ≤ wc ∧ wc ≤ 64) (h3 : rng (-128) 127 zb) (h4 : rng (-128) 127 zq) (h5 : rng 0 (sc-1) zt) (h6 : 0 ≤ re ∧ re ≤ np) (h7 : -1 ≤ lp ∧ lp ≤ np - 1 ∧ 0 ≤ wp ∧ wp ≤ re ∧ -1 ≤ lw ∧ lw ≤ np - 1) (h8 : rng 0 3 zk) (h9 : rng (-128) 127 zn) (h10 : nmOk zk zn) (h11 : rng 0 6 zc) (h12 : rng (-128) 127 za) (h13 : akOk zc za) (h14 : rng (-1) (np-1) zl) (h15 : 0 ≤ ar ∧ ar ≤ 1) (h16 : -1 ≤ tk ∧ tk ≤ re ∧ (tk = -1 ∨ (0 ≤ cp ∧ cp ≤ tk))) (h17 : rng 0 (np-1) zx) (h18 : 0 ≤ fe ∧ fe ≤ 304) (h19 : ru = 0 ∨ ru = 1) (h20 : ru = 0 → tk = -1) (h21 : 0 ≤ wa ∧ wa ≤ 304) (h22 : 1 ≤ ne ∧ ne ≤ 200) (h23 : rng 0 1 zm) (h24 : -2147483648 ≤ kp ∧ kp ≤ 2147483647) (h25 : -2147483648 ≤ te ∧ te ≤ 2147483647) : Ct lw_T l yX5_cut cX5_cut 3 none { frames := 2, cells := 0, slots := 0, locals := 65 } 0 0 D cls5 (TY K) [.ref x, .int (iZ kp), .int (iZ te)] [oX5 x d y u sa ru ar sq ge ne wa fe tk cp xc, oX0 d sc db dq dt wc, aB K db nb zb, aB K dq 32768 zq, aI K dt 64 zt, oX3 y yk yn yc ya yd yl lp re wp lw, aI K yk np zk, aI K yn np zn, aI K yc np zc, aI K ya na za, aL K yd np fd, aI K yl 64 zl, oX4 u um ud, aZ K um 64 zm, aL K ud 64 fu, aI K xc np zx] (fun v wo => ∃ (zb2 : Nat → Int), ∃ (zm2 : Nat → Int), v = none ∧ wo = [oX5 x d y u sa 0 ar sq ge ne wa fe (-1) cp xc, oX0 d sc db dq dt 0, aB K db nb zb2, aB K dq 32768 zq, aI K dt 64 zt, oX3 y yk yn yc ya yd yl lp re wp lw, aI K yk np zk, aI K yn np zn, aI K yc np zc, aI K ya na za, aL K yd np fd, aI K yl 64 zl, oX4 u um ud, aZ K um 64 zm2, aL K ud 64 fu, aI K xc np zx] ∧ (rng (-128) 127 zb2) ∧ (rng 0 1 zm2)) := by
  refine ct_of (own := RX5) (lv := [(0, .ref x), (1, .int (iZ kp)), (2, .int (iZ te))]) (by decide) rfl (Nat.le_of_ble_eq_true rfl) rfl (fun C F hr hnm hzl => ?_)
  subst hzl
  refine z_aload_n F 0 dX5_cut_0 rfl ?_
  refine z_get F 0 0 iX5 rfl rfl (by decide) t1_109 rfl dX5_cut_1 ?_
  refine z_iload_n F 1 dX5_cut_4 rfl ?_
  refine z_iconst F dX5_cut_5 ?_
  refine z_max F t1_23 t1_24 t1_2 t1_25 (Nat.le_of_ble_eq_true rfl) (Nat.le_of_ble_eq_true rfl) ⟨(show 0 + 0 ≤ 0 by omega), (show 0 + 0 ≤ 0 by omega)⟩ (by omega) dX5_cut_6 ?_
  refine z_nm F (fun q1 eq1 => ?_)
  refine z_iload_n F 2 dX5_cut_9 rfl ?_
  refine z_iconst F dX5_cut_10 ?_
  refine z_max F t1_23 t1_24 t1_2 t1_25 (Nat.le_of_ble_eq_true rfl) (Nat.le_of_ble_eq_true rfl) ⟨(show 0 + 0 ≤ 0 by omega), (show 0 + 0 ≤ 0 by omega)⟩ (by omega) dX5_cut_11 ?_
  refine z_nm F (fun q2 eq2 => ?_)
  refine z_sipush F dX5_cut_14 (by decide) ?_
  refine z_min F t1_26 t1_27 t1_2 t1_28 (Nat.le_of_ble_eq_true rfl) (Nat.le_of_ble_eq_true rfl) ⟨(show 0 + 0 ≤ 0 by omega), (show 0 + 0 ≤ 0 by omega)⟩ (by omega) dX5_cut_17 ?_
  refine z_nm F (fun q3 eq3 => ?_)
  refine z_callV F lw_good (k_X0_bring _ D K d sc db dq dt wc nb zb zq zt q1 q3 h0 h3 h4 h5 h2 (by omega)) t1_219 t1_3 t2_108 t1_217 (q := (RX0, TX0, 5)) t1_218 ⟨rfl, rfl⟩ ndX0_bring ⟨Nat.le_of_ble_eq_true rfl, Nat.le_of_ble_eq_true rfl⟩ 0 rfl rfl (rest := []) rfl (Nat.le_of_ble_eq_true rfl) dX5_cut_20 ⟨(show 0 + 0 ≤ 0 by omega), (show 0 + 0 ≤ 0 by omega)⟩ (wr := [oX5 x d y u sa ru ar sq ge ne wa fe tk cp xc, oX3 y yk yn yc ya yd yl lp re wp lw, aI K yk np zk, aI K yn np zn, aI K yc np zc, aI K ya na za, aL K yd np fd, aI K yl 64 zl, oX4 u um ud, aZ K um 64 zm, aL K ud 64 fu, aI K xc np zx]) ([1, 2, 3, 4] : List Nat) ([0, 5, 6, 7, 8, 9, 10, 11, 12, 13, 14, 15] : List Nat) rfl rfl rfl rfl (by decide) (fun v wo hp => ?_)
  obtain ⟨r_4, zb2_5, rfl, rfl, f6, f7⟩ := hp
  refine z_re F (ws' := [oX5 x d y u sa ru ar sq ge ne wa fe tk cp xc, oX0 d sc db dq dt 0, aB K db nb zb2_5, aB K dq 32768 zq, aI K dt 64 zt, oX3 y yk yn yc ya yd yl lp re wp lw, aI K yk np zk, aI K yn np zn, aI K yc np zc, aI K ya na za, aL K yd np fd, aI K yl 64 zl, oX4 u um ud, aZ K um 64 zm, aL K ud 64 fu, aI K xc np zx]) (st' := [.int (iZ r_4)]) ([0, 12, 13, 14, 15, 1, 2, 3, 4, 5, 6, 7, 8, 9, 10, 11] : List Nat) rfl rfl rfl ?_
  refine z_pop F dX5_cut_23 rfl ?_
  refine z_aload_n F 0 dX5_cut_24 rfl ?_
  refine z_iconst F dX5_cut_25 ?_
  refine z_put F (ws' := [oX5 x d y u sa 0 ar sq ge ne wa fe tk cp xc, oX0 d sc db dq dt 0, aB K db nb zb2_5, aB K dq 32768 zq, aI K dt 64 zt, oX3 y yk yn yc ya yd yl lp re wp lw, aI K yk np zk, aI K yn np zn, aI K yc np zc, aI K ya na za, aL K yd np fd, aI K yl 64 zl, oX4 u um ud, aZ K um 64 zm, aL K ud 64 fu, aI K xc np zx]) 0 4 iX5 tyX5 tyX5_ok nmX5 rfl rfl (by decide) t1_113 rfl rfl (by decide) (by decide) (Nat.le_of_ble_eq_true rfl) dX5_cut_26 rfl ?_
  refine z_aload_n F 0 dX5_cut_29 rfl ?_
  refine z_iconst F dX5_cut_30 ?_
  refine z_put F (ws' := [oX5 x d y u sa 0 ar sq ge ne wa fe (-1) cp xc, oX0 d sc db dq dt 0, aB K db nb zb2_5, aB K dq 32768 zq, aI K dt 64 zt, oX3 y yk yn yc ya yd yl lp re wp lw, aI K yk np zk, aI K yn np zn, aI K yc np zc, aI K ya na za, aL K yd np fd, aI K yl 64 zl, oX4 u um ud, aZ K um 64 zm, aL K ud 64 fu, aI K xc np zx]) 0 11 iX5 tyX5 tyX5_ok nmX5 rfl rfl (by decide) t1_120 rfl rfl rfl rfl (Nat.le_of_ble_eq_true rfl) dX5_cut_31 rfl ?_
  refine z_aload_n F 0 dX5_cut_34 rfl ?_
  refine z_get F 0 2 iX5 rfl rfl (by decide) t1_111 rfl dX5_cut_35 ?_
  refine z_callV F lw_good (k_X4_forgetAll _ D K u um ud zm h23) t2_148 t1_5 t2_145 t2_146 (q := (RX4, TX4, 2)) t2_147 ⟨rfl, rfl⟩ ndX4_forgetAll ⟨Nat.le_of_ble_eq_true rfl, Nat.le_of_ble_eq_true rfl⟩ 0 rfl rfl (rest := []) rfl (Nat.le_of_ble_eq_true rfl) dX5_cut_38 ⟨(show 0 + 0 ≤ 0 by omega), (show 0 + 0 ≤ 0 by omega)⟩ (wr := [oX5 x d y u sa 0 ar sq ge ne wa fe (-1) cp xc, oX0 d sc db dq dt 0, aB K db nb zb2_5, aB K dq 32768 zq, aI K dt 64 zt, oX3 y yk yn yc ya yd yl lp re wp lw, aI K yk np zk, aI K yn np zn, aI K yc np zc, aI K ya na za, aL K yd np fd, aI K yl 64 zl, aL K ud 64 fu, aI K xc np zx]) ([12, 13] : List Nat) ([0, 1, 2, 3, 4, 5, 6, 7, 8, 9, 10, 11, 14, 15] : List Nat) rfl rfl rfl rfl (by decide) (fun v wo hp => ?_)
  obtain ⟨zm2_8, rfl, rfl, f9⟩ := hp
  refine z_re F (ws' := [oX5 x d y u sa 0 ar sq ge ne wa fe (-1) cp xc, oX0 d sc db dq dt 0, aB K db nb zb2_5, aB K dq 32768 zq, aI K dt 64 zt, oX3 y yk yn yc ya yd yl lp re wp lw, aI K yk np zk, aI K yn np zn, aI K yc np zc, aI K ya na za, aL K yd np fd, aI K yl 64 zl, oX4 u um ud, aZ K um 64 zm2_8, aL K ud 64 fu, aI K xc np zx]) (st' := []) ([0, 1, 2, 3, 4, 5, 6, 7, 8, 9, 10, 11, 14, 15, 12, 13] : List Nat) rfl rfl rfl ?_
  exact z_vret F hr dX5_cut_41 (by omega) ⟨zb2_5, zm2_8, rfl, rfl, f7, f9⟩
set_option maxHeartbeats 4000000 in
set_option maxRecDepth 20000 in
theorem k_X5_digest (l : Launch) (D : va_G) (K : KI) (x : Nat) (sa : Int) (ru : Int) (ar : Int) (sq : Int) (ge : Int) (ne : Int) (wa : Int) (fe : Int) (tk : Int) (cp : Int) (xc : Nat) (u : Nat) (d : Nat) (sc : Int) (db : Nat) (dq : Nat) (dt : Nat) (wc : Int) (nb : Nat) (zb : Nat → Int) (zq : Nat → Int) (zt : Nat → Int) (y : Nat) (yk : Nat) (yn : Nat) (yc : Nat) (ya : Nat) (yd : Nat) (yl : Nat) (lp : Int) (re : Int) (wp : Int) (lw : Int) (np : Nat) (na : Nat) (zk : Nat → Int) (zn : Nat → Int) (zc : Nat → Int) (za : Nat → Int) (fd : Nat → Int64) (zl : Nat → Int) (um : Nat) (ud : Nat) (zm : Nat → Int) (fu : Nat → Int64) (zx : Nat → Int) (k : Int) (h0 : 4 ≤ sc ∧ sc ≤ 40 ∧ (nb : Int) = 512 * sc) (h1 : 1 ≤ sa ∧ 2 * sa ≤ sc - 2 ∧ (np : Int) = 16 * sa ∧ (na : Int) = 6 * np) (h2 : 0 ≤ wc ∧ wc ≤ 64) (h3 : rng (-128) 127 zb) (h4 : rng (-128) 127 zq) (h5 : rng 0 (sc-1) zt) (h6 : 0 ≤ re ∧ re ≤ np) (h7 : -1 ≤ lp ∧ lp ≤ np - 1 ∧ 0 ≤ wp ∧ wp ≤ re ∧ -1 ≤ lw ∧ lw ≤ np - 1) (h8 : rng 0 3 zk) (h9 : rng (-128) 127 zn) (h10 : nmOk zk zn) (h11 : rng 0 6 zc) (h12 : rng (-128) 127 za) (h13 : akOk zc za) (h14 : rng (-1) (np-1) zl) (h15 : 0 ≤ ar ∧ ar ≤ 1) (h16 : -1 ≤ tk ∧ tk ≤ re ∧ (tk = -1 ∨ (0 ≤ cp ∧ cp ≤ tk))) (h17 : rng 0 (np-1) zx) (h18 : 0 ≤ fe ∧ fe ≤ 304) (h19 : ru = 0 ∨ ru = 1) (h20 : ru = 0 → tk = -1) (h21 : 0 ≤ wa ∧ wa ≤ 304) (h22 : 1 ≤ ne ∧ ne ≤ 200) (h23 : rng 0 1 zm) (h24 : -2147483648 ≤ k ∧ k ≤ 2147483647) : Ct lw_T l yX5_digest cX5_digest 3 (some .long) { frames := 1, cells := 0, slots := 0, locals := 21 } 0 0 D cls5 (TY K) [.ref x, .int (iZ k)] [oX5 x d y u sa ru ar sq ge ne wa fe tk cp xc, oX0 d sc db dq dt wc, aB K db nb zb, aB K dq 32768 zq, aI K dt 64 zt, oX3 y yk yn yc ya yd yl lp re wp lw, aI K yk np zk, aI K yn np zn, aI K yc np zc, aI K ya na za, aL K yd np fd, aI K yl 64 zl, oX4 u um ud, aZ K um 64 zm, aL K ud 64 fu, aI K xc np zx] (fun v wo => ∃ (r : Int64), v = some (.long r) ∧ wo = [oX5 x d y u sa ru ar sq ge ne wa fe tk cp xc, oX0 d sc db dq dt wc, aB K db nb zb, aB K dq 32768 zq, aI K dt 64 zt, oX3 y yk yn yc ya yd yl lp re wp lw, aI K yk np zk, aI K yn np zn, aI K yc np zc, aI K ya na za, aL K yd np fd, aI K yl 64 zl, oX4 u um ud, aZ K um 64 zm, aL K ud 64 fu, aI K xc np zx] ∧ (ru = 0 → r = 0)) := by
  refine ct_of (own := RX5) (lv := [(0, .ref x), (1, .int (iZ k))]) (by decide) rfl (Nat.le_of_ble_eq_true rfl) rfl (fun C F hr hnm hzl => ?_)
  subst hzl
  refine z_aload_n F 0 dX5_digest_0 rfl ?_
  refine z_get F 0 4 iX5 rfl rfl (by decide) t1_113 rfl dX5_digest_1 ?_
  refine z_if_eq F 14 dX5_digest_4 (by decide) (by omega) (fun c1 => ?_) (fun c1 => ?_)
  · refine z_lconst F (v := 0) dX5_digest_14 (by decide) ?_
    exact z_lret F hr dX5_digest_15 (by omega) ⟨0, rfl, rfl, (by first | exact fun _ => rfl | (intro q; exfalso; omega))⟩
  · refine z_iload_n F 1 dX5_digest_7 rfl ?_
    refine z_callS F lw_good (k_X3_isKey _ D K k h24) t2_3 t1_4 t2_45 t2_2 ⟨rfl, rfl⟩ ndX3_isKey ⟨Nat.le_of_ble_eq_true rfl, Nat.le_of_ble_eq_true rfl⟩ (rest := []) rfl (Nat.le_of_ble_eq_true rfl) dX5_digest_8 ⟨(show 0 + 0 ≤ 0 by omega), (show 0 + 0 ≤ 0 by omega)⟩ (wr := [oX5 x d y u sa ru ar sq ge ne wa fe tk cp xc, oX0 d sc db dq dt wc, aB K db nb zb, aB K dq 32768 zq, aI K dt 64 zt, oX3 y yk yn yc ya yd yl lp re wp lw, aI K yk np zk, aI K yn np zn, aI K yc np zc, aI K ya na za, aL K yd np fd, aI K yl 64 zl, oX4 u um ud, aZ K um 64 zm, aL K ud 64 fu, aI K xc np zx]) ([] : List Nat) ([0, 1, 2, 3, 4, 5, 6, 7, 8, 9, 10, 11, 12, 13, 14, 15] : List Nat) rfl rfl rfl rfl (by decide) (fun v wo hp => ?_)
    obtain ⟨r_2, rfl, rfl, f3⟩ := hp
    refine z_re F (ws' := [oX5 x d y u sa ru ar sq ge ne wa fe tk cp xc, oX0 d sc db dq dt wc, aB K db nb zb, aB K dq 32768 zq, aI K dt 64 zt, oX3 y yk yn yc ya yd yl lp re wp lw, aI K yk np zk, aI K yn np zn, aI K yc np zc, aI K ya na za, aL K yd np fd, aI K yl 64 zl, oX4 u um ud, aZ K um 64 zm, aL K ud 64 fu, aI K xc np zx]) (st' := [.int (iZ r_2)]) ([0, 1, 2, 3, 4, 5, 6, 7, 8, 9, 10, 11, 12, 13, 14, 15] : List Nat) rfl rfl rfl ?_
    refine z_if_ne F 16 dX5_digest_11 (by decide) (by omega) (fun c4 => ?_) (fun c4 => ?_)
    · refine z_aload_n F 0 dX5_digest_16 rfl ?_
      refine z_get F 0 2 iX5 rfl rfl (by decide) t1_111 rfl dX5_digest_17 ?_
      refine z_iload_n F 1 dX5_digest_20 rfl ?_
      refine z_callV F lw_good (k_X4_has _ D K u um ud zm k (by omega) h23) t2_156 t1_5 t2_153 t2_154 (q := (RX4, TX4, 2)) t2_155 ⟨rfl, rfl⟩ ndX4_has ⟨Nat.le_of_ble_eq_true rfl, Nat.le_of_ble_eq_true rfl⟩ 0 rfl rfl (rest := []) rfl (Nat.le_of_ble_eq_true rfl) dX5_digest_21 ⟨(show 0 + 0 ≤ 0 by omega), (show 0 + 0 ≤ 0 by omega)⟩ (wr := [oX5 x d y u sa ru ar sq ge ne wa fe tk cp xc, oX0 d sc db dq dt wc, aB K db nb zb, aB K dq 32768 zq, aI K dt 64 zt, oX3 y yk yn yc ya yd yl lp re wp lw, aI K yk np zk, aI K yn np zn, aI K yc np zc, aI K ya na za, aL K yd np fd, aI K yl 64 zl, aL K ud 64 fu, aI K xc np zx]) ([12, 13] : List Nat) ([0, 1, 2, 3, 4, 5, 6, 7, 8, 9, 10, 11, 14, 15] : List Nat) rfl rfl rfl rfl (by decide) (fun v wo hp => ?_)
      obtain ⟨rfl, rfl⟩ := hp
      refine z_re F (ws' := [oX5 x d y u sa ru ar sq ge ne wa fe tk cp xc, oX0 d sc db dq dt wc, aB K db nb zb, aB K dq 32768 zq, aI K dt 64 zt, oX3 y yk yn yc ya yd yl lp re wp lw, aI K yk np zk, aI K yn np zn, aI K yc np zc, aI K ya na za, aL K yd np fd, aI K yl 64 zl, oX4 u um ud, aZ K um 64 zm, aL K ud 64 fu, aI K xc np zx]) (st' := [.int (iZ (zm k.toNat))]) ([0, 1, 2, 3, 4, 5, 6, 7, 8, 9, 10, 11, 14, 15, 12, 13] : List Nat) rfl rfl rfl ?_
      have hmr := h23 k.toNat
      refine z_if_eq F 36 dX5_digest_24 (by decide) (by omega) (fun c5 => ?_) (fun c5 => ?_)
      · refine z_aload_n F 0 dX5_digest_36 rfl ?_
        refine z_get F 0 1 iX5 rfl rfl (by decide) t1_110 rfl dX5_digest_37 ?_
        refine z_iload_n F 1 dX5_digest_40 rfl ?_
        refine z_callV F lw_good (k_X3_latest _ D K y yk yn yc ya yd yl lp re wp lw zl k (by omega)) t2_164 t1_4 t2_161 t2_162 (q := (RX3, TX3, 10)) t2_163 ⟨rfl, rfl⟩ ndX3_latest ⟨Nat.le_of_ble_eq_true rfl, Nat.le_of_ble_eq_true rfl⟩ 0 rfl rfl (rest := []) rfl (Nat.le_of_ble_eq_true rfl) dX5_digest_41 ⟨(show 0 + 0 ≤ 0 by omega), (show 0 + 0 ≤ 0 by omega)⟩ (wr := [oX5 x d y u sa ru ar sq ge ne wa fe tk cp xc, oX0 d sc db dq dt wc, aB K db nb zb, aB K dq 32768 zq, aI K dt 64 zt, aI K yk np zk, aI K yn np zn, aI K yc np zc, aI K ya na za, aL K yd np fd, oX4 u um ud, aZ K um 64 zm, aL K ud 64 fu, aI K xc np zx]) ([5, 11] : List Nat) ([0, 1, 2, 3, 4, 6, 7, 8, 9, 10, 12, 13, 14, 15] : List Nat) rfl rfl rfl rfl (by decide) (fun v wo hp => ?_)
        obtain ⟨rfl, rfl⟩ := hp
        refine z_re F (ws' := [oX5 x d y u sa ru ar sq ge ne wa fe tk cp xc, oX0 d sc db dq dt wc, aB K db nb zb, aB K dq 32768 zq, aI K dt 64 zt, oX3 y yk yn yc ya yd yl lp re wp lw, aI K yk np zk, aI K yn np zn, aI K yc np zc, aI K ya na za, aL K yd np fd, aI K yl 64 zl, oX4 u um ud, aZ K um 64 zm, aL K ud 64 fu, aI K xc np zx]) (st' := [.int (iZ (zl k.toNat))]) ([0, 1, 2, 3, 4, 14, 5, 6, 7, 8, 9, 15, 10, 11, 12, 13] : List Nat) rfl rfl rfl ?_
        have hlr := h14 k.toNat
        refine z_istore_n F (lv' := [(2, .int (iZ (zl k.toNat))), (0, .ref x), (1, .int (iZ k))]) dX5_digest_44 (by decide) rfl ?_
        refine z_iload_n F 0 dX5_digest_45 rfl ?_
        refine z_iconst F dX5_digest_46 ?_
        refine z_icmp_ne F 54 dX5_digest_47 (by decide) (by omega) (fun c6 => ?_) (fun c6 => ?_)
        · refine z_aload_n F 1 dX5_digest_54 rfl ?_
          refine z_get F 0 1 iX5 rfl rfl (by decide) t1_110 rfl dX5_digest_55 ?_
          refine z_iload_n F 0 dX5_digest_58 rfl ?_
          refine z_callV F lw_good (k_X3_digestAt _ D K y yk yn yc ya yd yl lp re wp lw np fd (zl k.toNat) (by omega)) t2_168 t1_4 t2_165 t2_166 (q := (RX3, TX3, 10)) t2_167 ⟨rfl, rfl⟩ ndX3_digestAt ⟨Nat.le_of_ble_eq_true rfl, Nat.le_of_ble_eq_true rfl⟩ 0 rfl rfl (rest := []) rfl (Nat.le_of_ble_eq_true rfl) dX5_digest_59 ⟨(show 0 + 0 ≤ 0 by omega), (show 0 + 0 ≤ 0 by omega)⟩ (wr := [oX5 x d y u sa ru ar sq ge ne wa fe tk cp xc, oX0 d sc db dq dt wc, aB K db nb zb, aB K dq 32768 zq, aI K dt 64 zt, aI K yk np zk, aI K yn np zn, aI K yc np zc, aI K ya na za, aI K yl 64 zl, oX4 u um ud, aZ K um 64 zm, aL K ud 64 fu, aI K xc np zx]) ([5, 10] : List Nat) ([0, 1, 2, 3, 4, 6, 7, 8, 9, 11, 12, 13, 14, 15] : List Nat) rfl rfl rfl rfl (by decide) (fun v wo hp => ?_)
          obtain ⟨rfl, rfl⟩ := hp
          refine z_re F (ws' := [oX5 x d y u sa ru ar sq ge ne wa fe tk cp xc, oX0 d sc db dq dt wc, aB K db nb zb, aB K dq 32768 zq, aI K dt 64 zt, oX3 y yk yn yc ya yd yl lp re wp lw, aI K yk np zk, aI K yn np zn, aI K yc np zc, aI K ya na za, aL K yd np fd, aI K yl 64 zl, oX4 u um ud, aZ K um 64 zm, aL K ud 64 fu, aI K xc np zx]) (st' := [.long (fd (zl k.toNat).toNat)]) ([0, 1, 2, 3, 4, 14, 5, 6, 7, 8, 15, 9, 10, 11, 12, 13] : List Nat) rfl rfl rfl ?_
          exact z_lret F hr dX5_digest_62 (by omega) ⟨(fd (zl k.toNat).toNat), rfl, rfl, (by first | exact fun _ => rfl | (intro q; exfalso; omega))⟩
        · refine z_lconst F (v := 0) dX5_digest_50 (by decide) ?_
          refine z_goto F 62 dX5_digest_51 (by decide) ?_
          exact z_lret F hr dX5_digest_62 (by omega) ⟨0, rfl, rfl, (by first | exact fun _ => rfl | (intro q; exfalso; omega))⟩
      · refine z_aload_n F 0 dX5_digest_27 rfl ?_
        refine z_get F 0 2 iX5 rfl rfl (by decide) t1_111 rfl dX5_digest_28 ?_
        refine z_iload_n F 1 dX5_digest_31 rfl ?_
        refine z_callV F lw_good (k_X4_digestOf _ D K u um ud fu k (by omega)) t2_160 t1_5 t2_157 t2_158 (q := (RX4, TX4, 2)) t2_159 ⟨rfl, rfl⟩ ndX4_digestOf ⟨Nat.le_of_ble_eq_true rfl, Nat.le_of_ble_eq_true rfl⟩ 0 rfl rfl (rest := []) rfl (Nat.le_of_ble_eq_true rfl) dX5_digest_32 ⟨(show 0 + 0 ≤ 0 by omega), (show 0 + 0 ≤ 0 by omega)⟩ (wr := [oX5 x d y u sa ru ar sq ge ne wa fe tk cp xc, oX0 d sc db dq dt wc, aB K db nb zb, aB K dq 32768 zq, aI K dt 64 zt, oX3 y yk yn yc ya yd yl lp re wp lw, aI K yk np zk, aI K yn np zn, aI K yc np zc, aI K ya na za, aL K yd np fd, aI K yl 64 zl, aZ K um 64 zm, aI K xc np zx]) ([12, 14] : List Nat) ([0, 1, 2, 3, 4, 5, 6, 7, 8, 9, 10, 11, 13, 15] : List Nat) rfl rfl rfl rfl (by decide) (fun v wo hp => ?_)
        obtain ⟨rfl, rfl⟩ := hp
        refine z_re F (ws' := [oX5 x d y u sa ru ar sq ge ne wa fe tk cp xc, oX0 d sc db dq dt wc, aB K db nb zb, aB K dq 32768 zq, aI K dt 64 zt, oX3 y yk yn yc ya yd yl lp re wp lw, aI K yk np zk, aI K yn np zn, aI K yc np zc, aI K ya na za, aL K yd np fd, aI K yl 64 zl, oX4 u um ud, aZ K um 64 zm, aL K ud 64 fu, aI K xc np zx]) (st' := [.long (fu k.toNat)]) ([0, 1, 2, 3, 4, 5, 6, 7, 8, 9, 10, 11, 14, 12, 15, 13] : List Nat) rfl rfl rfl ?_
        exact z_lret F hr dX5_digest_35 (by omega) ⟨(fu k.toNat), rfl, rfl, (by first | exact fun _ => rfl | (intro q; exfalso; omega))⟩
    · refine z_lconst F (v := 0) dX5_digest_14 (by decide) ?_
      exact z_lret F hr dX5_digest_15 (by omega) ⟨0, rfl, rfl, (by first | exact fun _ => rfl | (intro q; exfalso; omega))⟩
set_option maxHeartbeats 4000000 in
set_option maxRecDepth 20000 in
theorem k_X5_asked (l : Launch) (D : va_G) (K : KI) (x : Nat) (sa : Int) (ru : Int) (ar : Int) (sq : Int) (ge : Int) (ne : Int) (wa : Int) (fe : Int) (tk : Int) (cp : Int) (xc : Nat) (u : Nat) (d : Nat) (sc : Int) (db : Nat) (dq : Nat) (dt : Nat) (wc : Int) (nb : Nat) (zb : Nat → Int) (zq : Nat → Int) (zt : Nat → Int) (y : Nat) (yk : Nat) (yn : Nat) (yc : Nat) (ya : Nat) (yd : Nat) (yl : Nat) (lp : Int) (re : Int) (wp : Int) (lw : Int) (np : Nat) (na : Nat) (zk : Nat → Int) (zn : Nat → Int) (zc : Nat → Int) (za : Nat → Int) (fd : Nat → Int64) (zl : Nat → Int) (um : Nat) (ud : Nat) (zm : Nat → Int) (fu : Nat → Int64) (zx : Nat → Int) (k : Int) (i : Int) (h0 : 4 ≤ sc ∧ sc ≤ 40 ∧ (nb : Int) = 512 * sc) (h1 : 1 ≤ sa ∧ 2 * sa ≤ sc - 2 ∧ (np : Int) = 16 * sa ∧ (na : Int) = 6 * np) (h2 : 0 ≤ wc ∧ wc ≤ 64) (h3 : rng (-128) 127 zb) (h4 : rng (-128) 127 zq) (h5 : rng 0 (sc-1) zt) (h6 : 0 ≤ re ∧ re ≤ np) (h7 : -1 ≤ lp ∧ lp ≤ np - 1 ∧ 0 ≤ wp ∧ wp ≤ re ∧ -1 ≤ lw ∧ lw ≤ np - 1) (h8 : rng 0 3 zk) (h9 : rng (-128) 127 zn) (h10 : nmOk zk zn) (h11 : rng 0 6 zc) (h12 : rng (-128) 127 za) (h13 : akOk zc za) (h14 : rng (-1) (np-1) zl) (h15 : 0 ≤ ar ∧ ar ≤ 1) (h16 : -1 ≤ tk ∧ tk ≤ re ∧ (tk = -1 ∨ (0 ≤ cp ∧ cp ≤ tk))) (h17 : rng 0 (np-1) zx) (h18 : 0 ≤ fe ∧ fe ≤ 304) (h19 : ru = 0 ∨ ru = 1) (h20 : ru = 0 → tk = -1) (h21 : 0 ≤ wa ∧ wa ≤ 304) (h22 : 1 ≤ ne ∧ ne ≤ 200) (h23 : rng 0 1 zm) (h24 : -2147483648 ≤ k ∧ k ≤ 2147483647) (h25 : -2147483648 ≤ i ∧ i ≤ 2147483647) : Ct lw_T l yX5_asked cX5_asked 4 (some .int) { frames := 1, cells := 0, slots := 0, locals := 22 } 0 0 D cls5 (TY K) [.ref x, .int (iZ k), .int (iZ i)] [oX5 x d y u sa ru ar sq ge ne wa fe tk cp xc, oX0 d sc db dq dt wc, aB K db nb zb, aB K dq 32768 zq, aI K dt 64 zt, oX3 y yk yn yc ya yd yl lp re wp lw, aI K yk np zk, aI K yn np zn, aI K yc np zc, aI K ya na za, aL K yd np fd, aI K yl 64 zl, oX4 u um ud, aZ K um 64 zm, aL K ud 64 fu, aI K xc np zx] (fun v wo => ∃ (r : Int), v = some (.int (iZ r)) ∧ wo = [oX5 x d y u sa ru ar sq ge ne wa fe tk cp xc, oX0 d sc db dq dt wc, aB K db nb zb, aB K dq 32768 zq, aI K dt 64 zt, oX3 y yk yn yc ya yd yl lp re wp lw, aI K yk np zk, aI K yn np zn, aI K yc np zc, aI K ya na za, aL K yd np fd, aI K yl 64 zl, oX4 u um ud, aZ K um 64 zm, aL K ud 64 fu, aI K xc np zx] ∧ (-1 ≤ r ∧ r ≤ 127) ∧ (ru = 0 → r = -1)) := by
  refine ct_of (own := RX5) (lv := [(0, .ref x), (1, .int (iZ k)), (2, .int (iZ i))]) (by decide) rfl (Nat.le_of_ble_eq_true rfl) rfl (fun C F hr hnm hzl => ?_)
  subst hzl
  refine z_aload_n F 0 dX5_asked_0 rfl ?_
  refine z_get F 0 4 iX5 rfl rfl (by decide) t1_113 rfl dX5_asked_1 ?_
  refine z_if_eq F 25 dX5_asked_4 (by decide) (by omega) (fun c1 => ?_) (fun c1 => ?_)
  · refine z_iconst F dX5_asked_25 ?_
    exact z_iret F hr dX5_asked_26 (by omega) ⟨(-1), rfl, rfl, (by omega), (by omega)⟩
  · refine z_iload_n F 1 dX5_asked_7 rfl ?_
    refine z_callS F lw_good (k_X3_isKey _ D K k h24) t2_3 t1_4 t2_45 t2_2 ⟨rfl, rfl⟩ ndX3_isKey ⟨Nat.le_of_ble_eq_true rfl, Nat.le_of_ble_eq_true rfl⟩ (rest := []) rfl (Nat.le_of_ble_eq_true rfl) dX5_asked_8 ⟨(show 0 + 0 ≤ 0 by omega), (show 0 + 0 ≤ 0 by omega)⟩ (wr := [oX5 x d y u sa ru ar sq ge ne wa fe tk cp xc, oX0 d sc db dq dt wc, aB K db nb zb, aB K dq 32768 zq, aI K dt 64 zt, oX3 y yk yn yc ya yd yl lp re wp lw, aI K yk np zk, aI K yn np zn, aI K yc np zc, aI K ya na za, aL K yd np fd, aI K yl 64 zl, oX4 u um ud, aZ K um 64 zm, aL K ud 64 fu, aI K xc np zx]) ([] : List Nat) ([0, 1, 2, 3, 4, 5, 6, 7, 8, 9, 10, 11, 12, 13, 14, 15] : List Nat) rfl rfl rfl rfl (by decide) (fun v wo hp => ?_)
    obtain ⟨r_2, rfl, rfl, f3⟩ := hp
    refine z_re F (ws' := [oX5 x d y u sa ru ar sq ge ne wa fe tk cp xc, oX0 d sc db dq dt wc, aB K db nb zb, aB K dq 32768 zq, aI K dt 64 zt, oX3 y yk yn yc ya yd yl lp re wp lw, aI K yk np zk, aI K yn np zn, aI K yc np zc, aI K ya na za, aL K yd np fd, aI K yl 64 zl, oX4 u um ud, aZ K um 64 zm, aL K ud 64 fu, aI K xc np zx]) (st' := [.int (iZ r_2)]) ([0, 1, 2, 3, 4, 5, 6, 7, 8, 9, 10, 11, 12, 13, 14, 15] : List Nat) rfl rfl rfl ?_
    refine z_if_eq F 25 dX5_asked_11 (by decide) (by omega) (fun c4 => ?_) (fun c4 => ?_)
    · refine z_iconst F dX5_asked_25 ?_
      exact z_iret F hr dX5_asked_26 (by omega) ⟨(-1), rfl, rfl, (by omega), (by omega)⟩
    · refine z_aload_n F 0 dX5_asked_14 rfl ?_
      refine z_get F 0 2 iX5 rfl rfl (by decide) t1_111 rfl dX5_asked_15 ?_
      refine z_iload_n F 1 dX5_asked_18 rfl ?_
      refine z_callV F lw_good (k_X4_has _ D K u um ud zm k (by omega) h23) t2_156 t1_5 t2_153 t2_154 (q := (RX4, TX4, 2)) t2_155 ⟨rfl, rfl⟩ ndX4_has ⟨Nat.le_of_ble_eq_true rfl, Nat.le_of_ble_eq_true rfl⟩ 0 rfl rfl (rest := []) rfl (Nat.le_of_ble_eq_true rfl) dX5_asked_19 ⟨(show 0 + 0 ≤ 0 by omega), (show 0 + 0 ≤ 0 by omega)⟩ (wr := [oX5 x d y u sa ru ar sq ge ne wa fe tk cp xc, oX0 d sc db dq dt wc, aB K db nb zb, aB K dq 32768 zq, aI K dt 64 zt, oX3 y yk yn yc ya yd yl lp re wp lw, aI K yk np zk, aI K yn np zn, aI K yc np zc, aI K ya na za, aL K yd np fd, aI K yl 64 zl, aL K ud 64 fu, aI K xc np zx]) ([12, 13] : List Nat) ([0, 1, 2, 3, 4, 5, 6, 7, 8, 9, 10, 11, 14, 15] : List Nat) rfl rfl rfl rfl (by decide) (fun v wo hp => ?_)
      obtain ⟨rfl, rfl⟩ := hp
      refine z_re F (ws' := [oX5 x d y u sa ru ar sq ge ne wa fe tk cp xc, oX0 d sc db dq dt wc, aB K db nb zb, aB K dq 32768 zq, aI K dt 64 zt, oX3 y yk yn yc ya yd yl lp re wp lw, aI K yk np zk, aI K yn np zn, aI K yc np zc, aI K ya na za, aL K yd np fd, aI K yl 64 zl, oX4 u um ud, aZ K um 64 zm, aL K ud 64 fu, aI K xc np zx]) (st' := [.int (iZ (zm k.toNat))]) ([0, 1, 2, 3, 4, 5, 6, 7, 8, 9, 10, 11, 14, 15, 12, 13] : List Nat) rfl rfl rfl ?_
      have hmr := h23 k.toNat
      refine z_if_eq F 27 dX5_asked_22 (by decide) (by omega) (fun c5 => ?_) (fun c5 => ?_)
      · refine z_aload_n F 0 dX5_asked_27 rfl ?_
        refine z_get F 0 1 iX5 rfl rfl (by decide) t1_110 rfl dX5_asked_28 ?_
        refine z_iload_n F 1 dX5_asked_31 rfl ?_
        refine z_callV F lw_good (k_X3_latest _ D K y yk yn yc ya yd yl lp re wp lw zl k (by omega)) t2_164 t1_4 t2_161 t2_162 (q := (RX3, TX3, 10)) t2_163 ⟨rfl, rfl⟩ ndX3_latest ⟨Nat.le_of_ble_eq_true rfl, Nat.le_of_ble_eq_true rfl⟩ 0 rfl rfl (rest := []) rfl (Nat.le_of_ble_eq_true rfl) dX5_asked_32 ⟨(show 0 + 0 ≤ 0 by omega), (show 0 + 0 ≤ 0 by omega)⟩ (wr := [oX5 x d y u sa ru ar sq ge ne wa fe tk cp xc, oX0 d sc db dq dt wc, aB K db nb zb, aB K dq 32768 zq, aI K dt 64 zt, aI K yk np zk, aI K yn np zn, aI K yc np zc, aI K ya na za, aL K yd np fd, oX4 u um ud, aZ K um 64 zm, aL K ud 64 fu, aI K xc np zx]) ([5, 11] : List Nat) ([0, 1, 2, 3, 4, 6, 7, 8, 9, 10, 12, 13, 14, 15] : List Nat) rfl rfl rfl rfl (by decide) (fun v wo hp => ?_)
        obtain ⟨rfl, rfl⟩ := hp
        refine z_re F (ws' := [oX5 x d y u sa ru ar sq ge ne wa fe tk cp xc, oX0 d sc db dq dt wc, aB K db nb zb, aB K dq 32768 zq, aI K dt 64 zt, oX3 y yk yn yc ya yd yl lp re wp lw, aI K yk np zk, aI K yn np zn, aI K yc np zc, aI K ya na za, aL K yd np fd, aI K yl 64 zl, oX4 u um ud, aZ K um 64 zm, aL K ud 64 fu, aI K xc np zx]) (st' := [.int (iZ (zl k.toNat))]) ([0, 1, 2, 3, 4, 14, 5, 6, 7, 8, 9, 15, 10, 11, 12, 13] : List Nat) rfl rfl rfl ?_
        have hlr := h14 k.toNat
        refine z_istore_n F (lv' := [(3, .int (iZ (zl k.toNat))), (0, .ref x), (1, .int (iZ k)), (2, .int (iZ i))]) dX5_asked_35 (by decide) rfl ?_
        refine z_iload_n F 0 dX5_asked_36 rfl ?_
        refine z_iconst F dX5_asked_37 ?_
        refine z_icmp_eq F 57 dX5_asked_38 (by decide) (by omega) (fun c6 => ?_) (fun c6 => ?_)
        · refine z_iconst F dX5_asked_57 ?_
          exact z_iret F hr dX5_asked_58 (by omega) ⟨(-1), rfl, rfl, (by omega), (by omega)⟩
        · refine z_iload_n F 3 dX5_asked_41 rfl ?_
          refine z_if_lt F 57 dX5_asked_42 (by decide) (by omega) (fun c7 => ?_) (fun c7 => ?_)
          · refine z_iconst F dX5_asked_57 ?_
            exact z_iret F hr dX5_asked_58 (by omega) ⟨(-1), rfl, rfl, (by omega), (by omega)⟩
          · refine z_iload_n F 3 dX5_asked_45 rfl ?_
            refine z_aload_n F 1 dX5_asked_46 rfl ?_
            refine z_get F 0 1 iX5 rfl rfl (by decide) t1_110 rfl dX5_asked_47 ?_
            refine z_iload_n F 0 dX5_asked_50 rfl ?_
            refine z_callV F lw_good (k_X3_askCount _ D K y yk yn yc ya yd yl lp re wp lw np zc (zl k.toNat) (by omega)) t2_99 t1_4 t2_96 t2_97 (q := (RX3, TX3, 10)) t2_98 ⟨rfl, rfl⟩ ndX3_askCount ⟨Nat.le_of_ble_eq_true rfl, Nat.le_of_ble_eq_true rfl⟩ 0 rfl rfl (rest := [.int (iZ i)]) rfl (Nat.le_of_ble_eq_true rfl) dX5_asked_51 ⟨(show 0 + 0 ≤ 0 by omega), (show 0 + 0 ≤ 0 by omega)⟩ (wr := [oX5 x d y u sa ru ar sq ge ne wa fe tk cp xc, oX0 d sc db dq dt wc, aB K db nb zb, aB K dq 32768 zq, aI K dt 64 zt, aI K yk np zk, aI K yn np zn, aI K ya na za, aL K yd np fd, aI K yl 64 zl, oX4 u um ud, aZ K um 64 zm, aL K ud 64 fu, aI K xc np zx]) ([5, 8] : List Nat) ([0, 1, 2, 3, 4, 6, 7, 9, 10, 11, 12, 13, 14, 15] : List Nat) rfl rfl rfl rfl (by decide) (fun v wo hp => ?_)
            obtain ⟨rfl, rfl⟩ := hp
            refine z_re F (ws' := [oX5 x d y u sa ru ar sq ge ne wa fe tk cp xc, oX0 d sc db dq dt wc, aB K db nb zb, aB K dq 32768 zq, aI K dt 64 zt, oX3 y yk yn yc ya yd yl lp re wp lw, aI K yk np zk, aI K yn np zn, aI K yc np zc, aI K ya na za, aL K yd np fd, aI K yl 64 zl, oX4 u um ud, aZ K um 64 zm, aL K ud 64 fu, aI K xc np zx]) (st' := [.int (iZ (zc (zl k.toNat).toNat)), .int (iZ i)]) ([0, 1, 2, 3, 4, 14, 5, 6, 15, 7, 8, 9, 10, 11, 12, 13] : List Nat) rfl rfl rfl ?_
            have hcr := h11 (zl k.toNat).toNat
            refine z_icmp_lt F 59 dX5_asked_54 (by decide) (by omega) (fun c8 => ?_) (fun c8 => ?_)
            · refine z_aload_n F 1 dX5_asked_59 rfl ?_
              refine z_get F 0 1 iX5 rfl rfl (by decide) t1_110 rfl dX5_asked_60 ?_
              refine z_iload_n F 0 dX5_asked_63 rfl ?_
              refine z_iload_n F 3 dX5_asked_64 rfl ?_
              refine z_callV F lw_good (k_X3_askAt _ D K y yk yn yc ya yd yl lp re wp lw na za (zl k.toNat) i (by omega)) t2_77 t1_4 t2_173 t2_75 (q := (RX3, TX3, 10)) t2_76 ⟨rfl, rfl⟩ ndX3_askAt ⟨Nat.le_of_ble_eq_true rfl, Nat.le_of_ble_eq_true rfl⟩ 0 rfl rfl (rest := []) rfl (Nat.le_of_ble_eq_true rfl) dX5_asked_65 ⟨(show 0 + 0 ≤ 0 by omega), (show 0 + 0 ≤ 0 by omega)⟩ (wr := [oX5 x d y u sa ru ar sq ge ne wa fe tk cp xc, oX0 d sc db dq dt wc, aB K db nb zb, aB K dq 32768 zq, aI K dt 64 zt, aI K yk np zk, aI K yn np zn, aI K yc np zc, aL K yd np fd, aI K yl 64 zl, oX4 u um ud, aZ K um 64 zm, aL K ud 64 fu, aI K xc np zx]) ([5, 9] : List Nat) ([0, 1, 2, 3, 4, 6, 7, 8, 10, 11, 12, 13, 14, 15] : List Nat) rfl rfl rfl rfl (by decide) (fun v wo hp => ?_)
              obtain ⟨rfl, rfl⟩ := hp
              refine z_re F (ws' := [oX5 x d y u sa ru ar sq ge ne wa fe tk cp xc, oX0 d sc db dq dt wc, aB K db nb zb, aB K dq 32768 zq, aI K dt 64 zt, oX3 y yk yn yc ya yd yl lp re wp lw, aI K yk np zk, aI K yn np zn, aI K yc np zc, aI K ya na za, aL K yd np fd, aI K yl 64 zl, oX4 u um ud, aZ K um 64 zm, aL K ud 64 fu, aI K xc np zx]) (st' := [.int (iZ (za (((zl k.toNat) * 6) + i).toNat))]) ([0, 1, 2, 3, 4, 14, 5, 6, 7, 15, 8, 9, 10, 11, 12, 13] : List Nat) rfl rfl rfl ?_
              have hka := akOk_at (p := (zl k.toNat)) (i := i) (by assumption) (by omega) (by omega) (by omega)
              exact z_iret F hr dX5_asked_68 (by omega) ⟨(za (((zl k.toNat) * 6) + i).toNat), rfl, rfl, (by omega), (by omega)⟩
            · refine z_iconst F dX5_asked_57 ?_
              exact z_iret F hr dX5_asked_58 (by omega) ⟨(-1), rfl, rfl, (by omega), (by omega)⟩
      · refine z_iconst F dX5_asked_25 ?_
        exact z_iret F hr dX5_asked_26 (by omega) ⟨(-1), rfl, rfl, (by omega), (by omega)⟩
set_option maxHeartbeats 4000000 in
set_option maxRecDepth 20000 in
theorem k_X5_sure (l : Launch) (D : va_G) (K : KI) (x : Nat) (sa : Int) (ru : Int) (ar : Int) (sq : Int) (ge : Int) (ne : Int) (wa : Int) (fe : Int) (tk : Int) (cp : Int) (xc : Nat) (u : Nat) (d : Nat) (sc : Int) (db : Nat) (dq : Nat) (dt : Nat) (wc : Int) (nb : Nat) (zb : Nat → Int) (zq : Nat → Int) (zt : Nat → Int) (y : Nat) (yk : Nat) (yn : Nat) (yc : Nat) (ya : Nat) (yd : Nat) (yl : Nat) (lp : Int) (re : Int) (wp : Int) (lw : Int) (np : Nat) (na : Nat) (zk : Nat → Int) (zn : Nat → Int) (zc : Nat → Int) (za : Nat → Int) (fd : Nat → Int64) (zl : Nat → Int) (um : Nat) (ud : Nat) (zm : Nat → Int) (fu : Nat → Int64) (zx : Nat → Int) (k : Int) (h0 : 4 ≤ sc ∧ sc ≤ 40 ∧ (nb : Int) = 512 * sc) (h1 : 1 ≤ sa ∧ 2 * sa ≤ sc - 2 ∧ (np : Int) = 16 * sa ∧ (na : Int) = 6 * np) (h2 : 0 ≤ wc ∧ wc ≤ 64) (h3 : rng (-128) 127 zb) (h4 : rng (-128) 127 zq) (h5 : rng 0 (sc-1) zt) (h6 : 0 ≤ re ∧ re ≤ np) (h7 : -1 ≤ lp ∧ lp ≤ np - 1 ∧ 0 ≤ wp ∧ wp ≤ re ∧ -1 ≤ lw ∧ lw ≤ np - 1) (h8 : rng 0 3 zk) (h9 : rng (-128) 127 zn) (h10 : nmOk zk zn) (h11 : rng 0 6 zc) (h12 : rng (-128) 127 za) (h13 : akOk zc za) (h14 : rng (-1) (np-1) zl) (h15 : 0 ≤ ar ∧ ar ≤ 1) (h16 : -1 ≤ tk ∧ tk ≤ re ∧ (tk = -1 ∨ (0 ≤ cp ∧ cp ≤ tk))) (h17 : rng 0 (np-1) zx) (h18 : 0 ≤ fe ∧ fe ≤ 304) (h19 : ru = 0 ∨ ru = 1) (h20 : ru = 0 → tk = -1) (h21 : 0 ≤ wa ∧ wa ≤ 304) (h22 : 1 ≤ ne ∧ ne ≤ 200) (h23 : rng 0 1 zm) (h24 : -2147483648 ≤ k ∧ k ≤ 2147483647) : Ct lw_T l yX5_sure cX5_sure 3 (some .boolean) { frames := 2, cells := 0, slots := 0, locals := 47 } 0 0 D cls5 (TY K) [.ref x, .int (iZ k)] [oX5 x d y u sa ru ar sq ge ne wa fe tk cp xc, oX0 d sc db dq dt wc, aB K db nb zb, aB K dq 32768 zq, aI K dt 64 zt, oX3 y yk yn yc ya yd yl lp re wp lw, aI K yk np zk, aI K yn np zn, aI K yc np zc, aI K ya na za, aL K yd np fd, aI K yl 64 zl, oX4 u um ud, aZ K um 64 zm, aL K ud 64 fu, aI K xc np zx] (fun v wo => ∃ (r : Int), v = some (.int (iZ r)) ∧ wo = [oX5 x d y u sa ru ar sq ge ne wa fe tk cp xc, oX0 d sc db dq dt wc, aB K db nb zb, aB K dq 32768 zq, aI K dt 64 zt, oX3 y yk yn yc ya yd yl lp re wp lw, aI K yk np zk, aI K yn np zn, aI K yc np zc, aI K ya na za, aL K yd np fd, aI K yl 64 zl, oX4 u um ud, aZ K um 64 zm, aL K ud 64 fu, aI K xc np zx] ∧ (r = 0 ∨ r = 1) ∧ (ru = 0 → r = 0)) := by
  refine ct_of (own := RX5) (lv := [(0, .ref x), (1, .int (iZ k))]) (by decide) rfl (Nat.le_of_ble_eq_true rfl) rfl (fun C F hr hnm hzl => ?_)
  subst hzl
  refine z_aload_n F 0 dX5_sure_0 rfl ?_
  refine z_get F 0 4 iX5 rfl rfl (by decide) t1_113 rfl dX5_sure_1 ?_
  refine z_if_eq F 14 dX5_sure_4 (by decide) (by omega) (fun c1 => ?_) (fun c1 => ?_)
  · refine z_iconst F dX5_sure_14 ?_
    exact z_zret F hr (by decide) dX5_sure_15 (by omega) ⟨0, rfl, rfl, (by omega), (by omega)⟩
  · refine z_iload_n F 1 dX5_sure_7 rfl ?_
    refine z_callS F lw_good (k_X3_isKey _ D K k h24) t2_3 t1_4 t2_45 t2_2 ⟨rfl, rfl⟩ ndX3_isKey ⟨Nat.le_of_ble_eq_true rfl, Nat.le_of_ble_eq_true rfl⟩ (rest := []) rfl (Nat.le_of_ble_eq_true rfl) dX5_sure_8 ⟨(show 0 + 0 ≤ 0 by omega), (show 0 + 0 ≤ 0 by omega)⟩ (wr := [oX5 x d y u sa ru ar sq ge ne wa fe tk cp xc, oX0 d sc db dq dt wc, aB K db nb zb, aB K dq 32768 zq, aI K dt 64 zt, oX3 y yk yn yc ya yd yl lp re wp lw, aI K yk np zk, aI K yn np zn, aI K yc np zc, aI K ya na za, aL K yd np fd, aI K yl 64 zl, oX4 u um ud, aZ K um 64 zm, aL K ud 64 fu, aI K xc np zx]) ([] : List Nat) ([0, 1, 2, 3, 4, 5, 6, 7, 8, 9, 10, 11, 12, 13, 14, 15] : List Nat) rfl rfl rfl rfl (by decide) (fun v wo hp => ?_)
    obtain ⟨r_2, rfl, rfl, f3⟩ := hp
    refine z_re F (ws' := [oX5 x d y u sa ru ar sq ge ne wa fe tk cp xc, oX0 d sc db dq dt wc, aB K db nb zb, aB K dq 32768 zq, aI K dt 64 zt, oX3 y yk yn yc ya yd yl lp re wp lw, aI K yk np zk, aI K yn np zn, aI K yc np zc, aI K ya na za, aL K yd np fd, aI K yl 64 zl, oX4 u um ud, aZ K um 64 zm, aL K ud 64 fu, aI K xc np zx]) (st' := [.int (iZ r_2)]) ([0, 1, 2, 3, 4, 5, 6, 7, 8, 9, 10, 11, 12, 13, 14, 15] : List Nat) rfl rfl rfl ?_
    refine z_if_ne F 16 dX5_sure_11 (by decide) (by omega) (fun c4 => ?_) (fun c4 => ?_)
    · refine z_aload_n F 0 dX5_sure_16 rfl ?_
      refine z_get F 0 2 iX5 rfl rfl (by decide) t1_111 rfl dX5_sure_17 ?_
      refine z_iload_n F 1 dX5_sure_20 rfl ?_
      refine z_callV F lw_good (k_X4_has _ D K u um ud zm k (by omega) h23) t2_156 t1_5 t2_153 t2_154 (q := (RX4, TX4, 2)) t2_155 ⟨rfl, rfl⟩ ndX4_has ⟨Nat.le_of_ble_eq_true rfl, Nat.le_of_ble_eq_true rfl⟩ 0 rfl rfl (rest := []) rfl (Nat.le_of_ble_eq_true rfl) dX5_sure_21 ⟨(show 0 + 0 ≤ 0 by omega), (show 0 + 0 ≤ 0 by omega)⟩ (wr := [oX5 x d y u sa ru ar sq ge ne wa fe tk cp xc, oX0 d sc db dq dt wc, aB K db nb zb, aB K dq 32768 zq, aI K dt 64 zt, oX3 y yk yn yc ya yd yl lp re wp lw, aI K yk np zk, aI K yn np zn, aI K yc np zc, aI K ya na za, aL K yd np fd, aI K yl 64 zl, aL K ud 64 fu, aI K xc np zx]) ([12, 13] : List Nat) ([0, 1, 2, 3, 4, 5, 6, 7, 8, 9, 10, 11, 14, 15] : List Nat) rfl rfl rfl rfl (by decide) (fun v wo hp => ?_)
      obtain ⟨rfl, rfl⟩ := hp
      refine z_re F (ws' := [oX5 x d y u sa ru ar sq ge ne wa fe tk cp xc, oX0 d sc db dq dt wc, aB K db nb zb, aB K dq 32768 zq, aI K dt 64 zt, oX3 y yk yn yc ya yd yl lp re wp lw, aI K yk np zk, aI K yn np zn, aI K yc np zc, aI K ya na za, aL K yd np fd, aI K yl 64 zl, oX4 u um ud, aZ K um 64 zm, aL K ud 64 fu, aI K xc np zx]) (st' := [.int (iZ (zm k.toNat))]) ([0, 1, 2, 3, 4, 5, 6, 7, 8, 9, 10, 11, 14, 15, 12, 13] : List Nat) rfl rfl rfl ?_
      have hmr := h23 k.toNat
      refine z_if_eq F 29 dX5_sure_24 (by decide) (by omega) (fun c5 => ?_) (fun c5 => ?_)
      · refine z_aload_n F 0 dX5_sure_29 rfl ?_
        refine z_get F 0 1 iX5 rfl rfl (by decide) t1_110 rfl dX5_sure_30 ?_
        refine z_iload_n F 1 dX5_sure_33 rfl ?_
        refine z_callV F lw_good (k_X3_latest _ D K y yk yn yc ya yd yl lp re wp lw zl k (by omega)) t2_164 t1_4 t2_161 t2_162 (q := (RX3, TX3, 10)) t2_163 ⟨rfl, rfl⟩ ndX3_latest ⟨Nat.le_of_ble_eq_true rfl, Nat.le_of_ble_eq_true rfl⟩ 0 rfl rfl (rest := []) rfl (Nat.le_of_ble_eq_true rfl) dX5_sure_34 ⟨(show 0 + 0 ≤ 0 by omega), (show 0 + 0 ≤ 0 by omega)⟩ (wr := [oX5 x d y u sa ru ar sq ge ne wa fe tk cp xc, oX0 d sc db dq dt wc, aB K db nb zb, aB K dq 32768 zq, aI K dt 64 zt, aI K yk np zk, aI K yn np zn, aI K yc np zc, aI K ya na za, aL K yd np fd, oX4 u um ud, aZ K um 64 zm, aL K ud 64 fu, aI K xc np zx]) ([5, 11] : List Nat) ([0, 1, 2, 3, 4, 6, 7, 8, 9, 10, 12, 13, 14, 15] : List Nat) rfl rfl rfl rfl (by decide) (fun v wo hp => ?_)
        obtain ⟨rfl, rfl⟩ := hp
        refine z_re F (ws' := [oX5 x d y u sa ru ar sq ge ne wa fe tk cp xc, oX0 d sc db dq dt wc, aB K db nb zb, aB K dq 32768 zq, aI K dt 64 zt, oX3 y yk yn yc ya yd yl lp re wp lw, aI K yk np zk, aI K yn np zn, aI K yc np zc, aI K ya na za, aL K yd np fd, aI K yl 64 zl, oX4 u um ud, aZ K um 64 zm, aL K ud 64 fu, aI K xc np zx]) (st' := [.int (iZ (zl k.toNat))]) ([0, 1, 2, 3, 4, 14, 5, 6, 7, 8, 9, 15, 10, 11, 12, 13] : List Nat) rfl rfl rfl ?_
        have hlr := h14 k.toNat
        refine z_istore_n F (lv' := [(2, .int (iZ (zl k.toNat))), (0, .ref x), (1, .int (iZ k))]) dX5_sure_37 (by decide) rfl ?_
        refine z_iload_n F 0 dX5_sure_38 rfl ?_
        refine z_iconst F dX5_sure_39 ?_
        refine z_icmp_eq F 66 dX5_sure_40 (by decide) (by omega) (fun c6 => ?_) (fun c6 => ?_)
        · refine z_iconst F dX5_sure_66 ?_
          exact z_zret F hr (by decide) dX5_sure_67 (by omega) ⟨0, rfl, rfl, (by omega), (by omega)⟩
        · refine z_aload_n F 1 dX5_sure_43 rfl ?_
          refine z_get F 0 1 iX5 rfl rfl (by decide) t1_110 rfl dX5_sure_44 ?_
          refine z_iload_n F 0 dX5_sure_47 rfl ?_
          refine z_callV F lw_good (k_X3_isWrongBehind _ D K y yk yn yc ya yd yl lp re wp lw (zl k.toNat) (by omega)) t2_128 t1_4 t2_178 t2_126 (q := (RX3, TX3, 10)) t2_127 ⟨rfl, rfl⟩ ndX3_isWrongBehind ⟨Nat.le_of_ble_eq_true rfl, Nat.le_of_ble_eq_true rfl⟩ 0 rfl rfl (rest := []) rfl (Nat.le_of_ble_eq_true rfl) dX5_sure_48 ⟨(show 0 + 0 ≤ 0 by omega), (show 0 + 0 ≤ 0 by omega)⟩ (wr := [oX5 x d y u sa ru ar sq ge ne wa fe tk cp xc, oX0 d sc db dq dt wc, aB K db nb zb, aB K dq 32768 zq, aI K dt 64 zt, aI K yk np zk, aI K yn np zn, aI K yc np zc, aI K ya na za, aL K yd np fd, aI K yl 64 zl, oX4 u um ud, aZ K um 64 zm, aL K ud 64 fu, aI K xc np zx]) ([5] : List Nat) ([0, 1, 2, 3, 4, 6, 7, 8, 9, 10, 11, 12, 13, 14, 15] : List Nat) rfl rfl rfl rfl (by decide) (fun v wo hp => ?_)
          obtain ⟨r_7, rfl, rfl, f8⟩ := hp
          refine z_re F (ws' := [oX5 x d y u sa ru ar sq ge ne wa fe tk cp xc, oX0 d sc db dq dt wc, aB K db nb zb, aB K dq 32768 zq, aI K dt 64 zt, oX3 y yk yn yc ya yd yl lp re wp lw, aI K yk np zk, aI K yn np zn, aI K yc np zc, aI K ya na za, aL K yd np fd, aI K yl 64 zl, oX4 u um ud, aZ K um 64 zm, aL K ud 64 fu, aI K xc np zx]) (st' := [.int (iZ r_7)]) ([0, 1, 2, 3, 4, 15, 5, 6, 7, 8, 9, 10, 11, 12, 13, 14] : List Nat) rfl rfl rfl ?_
          refine z_if_ne F 66 dX5_sure_51 (by decide) (by omega) (fun c9 => ?_) (fun c9 => ?_)
          · refine z_iconst F dX5_sure_66 ?_
            exact z_zret F hr (by decide) dX5_sure_67 (by omega) ⟨0, rfl, rfl, (by omega), (by omega)⟩
          · refine z_aload_n F 1 dX5_sure_54 rfl ?_
            refine z_iload_n F 0 dX5_sure_55 rfl ?_
            refine z_callV F lw_good (k_X5_allAskedAhead _ D K x sa ru ar sq ge ne wa fe tk cp xc d y yk yn yc ya yd yl lp re wp lw np na zc za zl u um ud zm (zl k.toNat) (by omega) (by omega) h11 h12 h13 h14 h23) t2_182 t1_1 t2_179 t2_181 (q := (RX5, TX5, 14)) ts_17 ⟨rfl, rfl⟩ ndX5_allAskedAhead ⟨Nat.le_of_ble_eq_true rfl, Nat.le_of_ble_eq_true rfl⟩ 0 rfl rfl (rest := []) rfl (Nat.le_of_ble_eq_true rfl) dX5_sure_56 ⟨(show 0 + 0 ≤ 0 by omega), (show 0 + 0 ≤ 0 by omega)⟩ (wr := [oX0 d sc db dq dt wc, aB K db nb zb, aB K dq 32768 zq, aI K dt 64 zt, aI K yk np zk, aI K yn np zn, aL K yd np fd, aL K ud 64 fu, aI K xc np zx]) ([0, 5, 8, 9, 11, 12, 13] : List Nat) ([1, 2, 3, 4, 6, 7, 10, 14, 15] : List Nat) rfl rfl rfl rfl (by decide) (fun v wo hp => ?_)
            obtain ⟨r_10, rfl, rfl, f11⟩ := hp
            refine z_re F (ws' := [oX5 x d y u sa ru ar sq ge ne wa fe tk cp xc, oX0 d sc db dq dt wc, aB K db nb zb, aB K dq 32768 zq, aI K dt 64 zt, oX3 y yk yn yc ya yd yl lp re wp lw, aI K yk np zk, aI K yn np zn, aI K yc np zc, aI K ya na za, aL K yd np fd, aI K yl 64 zl, oX4 u um ud, aZ K um 64 zm, aL K ud 64 fu, aI K xc np zx]) (st' := [.int (iZ r_10)]) ([9, 0, 1, 2, 3, 10, 4, 5, 11, 12, 6, 13, 14, 15, 7, 8] : List Nat) rfl rfl rfl ?_
            refine z_if_eq F 66 dX5_sure_59 (by decide) (by omega) (fun c12 => ?_) (fun c12 => ?_)
            · refine z_iconst F dX5_sure_66 ?_
              exact z_zret F hr (by decide) dX5_sure_67 (by omega) ⟨0, rfl, rfl, (by omega), (by omega)⟩
            · refine z_iconst F dX5_sure_62 ?_
              refine z_goto F 67 dX5_sure_63 (by decide) ?_
              exact z_zret F hr (by decide) dX5_sure_67 (by omega) ⟨1, rfl, rfl, (by omega), (by omega)⟩
      · refine z_iconst F dX5_sure_27 ?_
        exact z_zret F hr (by decide) dX5_sure_28 (by omega) ⟨1, rfl, rfl, (by omega), (by omega)⟩
    · refine z_iconst F dX5_sure_14 ?_
      exact z_zret F hr (by decide) dX5_sure_15 (by omega) ⟨0, rfl, rfl, (by omega), (by omega)⟩
set_option maxHeartbeats 4000000 in
set_option maxRecDepth 20000 in
theorem k_X5_poke (l : Launch) (D : va_G) (K : KI) (x : Nat) (sa : Int) (ru : Int) (ar : Int) (sq : Int) (ge : Int) (ne : Int) (wa : Int) (fe : Int) (tk : Int) (cp : Int) (xc : Nat) (u : Nat) (d : Nat) (sc : Int) (db : Nat) (dq : Nat) (dt : Nat) (wc : Int) (nb : Nat) (zb : Nat → Int) (zq : Nat → Int) (zt : Nat → Int) (y : Nat) (yk : Nat) (yn : Nat) (yc : Nat) (ya : Nat) (yd : Nat) (yl : Nat) (lp : Int) (re : Int) (wp : Int) (lw : Int) (np : Nat) (na : Nat) (zk : Nat → Int) (zn : Nat → Int) (zc : Nat → Int) (za : Nat → Int) (fd : Nat → Int64) (zl : Nat → Int) (um : Nat) (ud : Nat) (zm : Nat → Int) (fu : Nat → Int64) (zx : Nat → Int) (pc0 : Int) (mk : Int) (h0 : 4 ≤ sc ∧ sc ≤ 40 ∧ (nb : Int) = 512 * sc) (h1 : 1 ≤ sa ∧ 2 * sa ≤ sc - 2 ∧ (np : Int) = 16 * sa ∧ (na : Int) = 6 * np) (h2 : 0 ≤ wc ∧ wc ≤ 64) (h3 : rng (-128) 127 zb) (h4 : rng (-128) 127 zq) (h5 : rng 0 (sc-1) zt) (h6 : 0 ≤ re ∧ re ≤ np) (h7 : -1 ≤ lp ∧ lp ≤ np - 1 ∧ 0 ≤ wp ∧ wp ≤ re ∧ -1 ≤ lw ∧ lw ≤ np - 1) (h8 : rng 0 3 zk) (h9 : rng (-128) 127 zn) (h10 : nmOk zk zn) (h11 : rng 0 6 zc) (h12 : rng (-128) 127 za) (h13 : akOk zc za) (h14 : rng (-1) (np-1) zl) (h15 : 0 ≤ ar ∧ ar ≤ 1) (h16 : -1 ≤ tk ∧ tk ≤ re ∧ (tk = -1 ∨ (0 ≤ cp ∧ cp ≤ tk))) (h17 : rng 0 (np-1) zx) (h18 : 0 ≤ fe ∧ fe ≤ 304) (h19 : ru = 0 ∨ ru = 1) (h20 : ru = 0 → tk = -1) (h21 : 0 ≤ wa ∧ wa ≤ 304) (h22 : 1 ≤ ne ∧ ne ≤ 200) (h23 : rng 0 1 zm) (h24 : -2147483648 ≤ pc0 ∧ pc0 ≤ 2147483647) (h25 : -2147483648 ≤ mk ∧ mk ≤ 2147483647) : Ct lw_T l yX5_poke cX5_poke 3 (some .int) { frames := 0, cells := 0, slots := 0, locals := 0 } 0 0 D cls5 (TY K) [.ref x, .int (iZ pc0), .int (iZ mk)] [oX5 x d y u sa ru ar sq ge ne wa fe tk cp xc, oX0 d sc db dq dt wc, aB K db nb zb, aB K dq 32768 zq, aI K dt 64 zt, oX3 y yk yn yc ya yd yl lp re wp lw, aI K yk np zk, aI K yn np zn, aI K yc np zc, aI K ya na za, aL K yd np fd, aI K yl 64 zl, oX4 u um ud, aZ K um 64 zm, aL K ud 64 fu, aI K xc np zx] (fun v wo => ∃ (r : Int), ∃ (zb2 : Nat → Int), v = some (.int (iZ r)) ∧ wo = [oX5 x d y u sa ru ar sq ge ne wa fe tk cp xc, oX0 d sc db dq dt wc, aB K db nb zb2, aB K dq 32768 zq, aI K dt 64 zt, oX3 y yk yn yc ya yd yl lp re wp lw, aI K yk np zk, aI K yn np zn, aI K yc np zc, aI K ya na za, aL K yd np fd, aI K yl 64 zl, oX4 u um ud, aZ K um 64 zm, aL K ud 64 fu, aI K xc np zx] ∧ (((0 ≤ pc0 ∧ pc0 ≤ 512 * sc - 1 ∧ 1 ≤ mk ∧ mk ≤ 255) → r = 1) ∧ (¬ (0 ≤ pc0 ∧ pc0 ≤ 512 * sc - 1 ∧ 1 ≤ mk ∧ mk ≤ 255) → r = -2)) ∧ (rng (-128) 127 zb2)) := by
  refine ct_of (own := RX5) (lv := [(0, .ref x), (1, .int (iZ pc0)), (2, .int (iZ mk))]) (by decide) rfl (Nat.le_of_ble_eq_true rfl) rfl (fun C F hr hnm hzl => ?_)
  subst hzl
  refine z_iload_n F 1 dX5_poke_0 rfl ?_
  refine z_if_lt F 28 dX5_poke_1 (by decide) (by omega) (fun c1 => ?_) (fun c1 => ?_)
  · refine z_bipush F dX5_poke_28 (by decide) ?_
    exact z_iret F hr dX5_poke_30 (by omega) ⟨(-2), zb, rfl, rfl, (by omega), h3⟩
  · refine z_iload_n F 1 dX5_poke_4 rfl ?_
    refine z_aload_n F 0 dX5_poke_5 rfl ?_
    refine z_get F 0 0 iX5 rfl rfl (by decide) t1_109 rfl dX5_poke_6 ?_
    refine z_get F 1 1 iX0 rfl rfl (by decide) t1_39 rfl dX5_poke_9 ?_
    refine z_alen F 2 1 rfl rfl dX5_poke_12 ?_
    refine z_icmp_ge F 28 dX5_poke_13 (by decide) (by omega) (fun c2 => ?_) (fun c2 => ?_)
    · refine z_bipush F dX5_poke_28 (by decide) ?_
      exact z_iret F hr dX5_poke_30 (by omega) ⟨(-2), zb, rfl, rfl, (by omega), h3⟩
    · refine z_iload_n F 2 dX5_poke_16 rfl ?_
      refine z_iconst F dX5_poke_17 ?_
      refine z_icmp_lt F 28 dX5_poke_18 (by decide) (by omega) (fun c3 => ?_) (fun c3 => ?_)
      · refine z_bipush F dX5_poke_28 (by decide) ?_
        exact z_iret F hr dX5_poke_30 (by omega) ⟨(-2), zb, rfl, rfl, (by omega), h3⟩
      · refine z_iload_n F 2 dX5_poke_21 rfl ?_
        refine z_sipush F dX5_poke_22 (by decide) ?_
        refine z_icmp_le F 31 dX5_poke_25 (by decide) (by omega) (fun c4 => ?_) (fun c4 => ?_)
        · refine z_aload_n F 0 dX5_poke_31 rfl ?_
          refine z_get F 0 0 iX5 rfl rfl (by decide) t1_109 rfl dX5_poke_32 ?_
          refine z_get F 1 1 iX0 rfl rfl (by decide) t1_39 rfl dX5_poke_35 ?_
          refine z_iload_n F 1 dX5_poke_38 rfl ?_
          refine z_aload_n F 0 dX5_poke_39 rfl ?_
          refine z_get F 0 0 iX5 rfl rfl (by decide) t1_109 rfl dX5_poke_40 ?_
          refine z_get F 1 1 iX0 rfl rfl (by decide) t1_39 rfl dX5_poke_43 ?_
          refine z_iload_n F 1 dX5_poke_46 rfl ?_
          refine z_bald F 2 rfl rfl dX5_poke_47 (by omega) (by omega) ?_
          have r5 : (-128) ≤ zb pc0.toNat ∧ zb pc0.toNat ≤ 127 := h3 _
          refine z_iload_n F 2 dX5_poke_48 rfl ?_
          refine z_ixor F dX5_poke_49 (fun b6 rb6 eb6 => ?_)
          refine z_i2b F dX5_poke_50 ?_
          refine z_bast F (ws' := [oX5 x d y u sa ru ar sq ge ne wa fe tk cp xc, oX0 d sc db dq dt wc, aB K db nb (zu zb pc0.toNat ((b6.bmod 256).bmod 256)), aB K dq 32768 zq, aI K dt 64 zt, oX3 y yk yn yc ya yd yl lp re wp lw, aI K yk np zk, aI K yn np zn, aI K yc np zc, aI K ya na za, aL K yd np fd, aI K yl 64 zl, oX4 u um ud, aZ K um 64 zm, aL K ud 64 fu, aI K xc np zx]) 2 rfl rfl dX5_poke_51 (by omega) (by omega) rfl ?_
          have r7 : rng (-128) 127 (zu zb pc0.toNat ((b6.bmod 256).bmod 256)) := rng_zu h3 (bm_r _)
          refine z_iconst F dX5_poke_52 ?_
          exact z_iret F hr dX5_poke_53 (by omega) ⟨1, (zu zb pc0.toNat ((b6.bmod 256).bmod 256)), rfl, rfl, (by omega), r7⟩
        · refine z_bipush F dX5_poke_28 (by decide) ?_
          exact z_iret F hr dX5_poke_30 (by omega) ⟨(-2), zb, rfl, rfl, (by omega), h3⟩
set_option maxHeartbeats 4000000 in
set_option maxRecDepth 20000 in
theorem k_X5_wrong (l : Launch) (D : va_G) (K : KI) (x : Nat) (sa : Int) (ru : Int) (ar : Int) (sq : Int) (ge : Int) (ne : Int) (wa : Int) (fe : Int) (tk : Int) (cp : Int) (xc : Nat) (u : Nat) (d : Nat) (sc : Int) (db : Nat) (dq : Nat) (dt : Nat) (wc : Int) (nb : Nat) (zb : Nat → Int) (zq : Nat → Int) (zt : Nat → Int) (y : Nat) (yk : Nat) (yn : Nat) (yc : Nat) (ya : Nat) (yd : Nat) (yl : Nat) (lp : Int) (re : Int) (wp : Int) (lw : Int) (np : Nat) (na : Nat) (zk : Nat → Int) (zn : Nat → Int) (zc : Nat → Int) (za : Nat → Int) (fd : Nat → Int64) (zl : Nat → Int) (um : Nat) (ud : Nat) (zm : Nat → Int) (fu : Nat → Int64) (zx : Nat → Int) (h0 : 4 ≤ sc ∧ sc ≤ 40 ∧ (nb : Int) = 512 * sc) (h1 : 1 ≤ sa ∧ 2 * sa ≤ sc - 2 ∧ (np : Int) = 16 * sa ∧ (na : Int) = 6 * np) (h2 : 0 ≤ wc ∧ wc ≤ 64) (h3 : rng (-128) 127 zb) (h4 : rng (-128) 127 zq) (h5 : rng 0 (sc-1) zt) (h6 : 0 ≤ re ∧ re ≤ np) (h7 : -1 ≤ lp ∧ lp ≤ np - 1 ∧ 0 ≤ wp ∧ wp ≤ re ∧ -1 ≤ lw ∧ lw ≤ np - 1) (h8 : rng 0 3 zk) (h9 : rng (-128) 127 zn) (h10 : nmOk zk zn) (h11 : rng 0 6 zc) (h12 : rng (-128) 127 za) (h13 : akOk zc za) (h14 : rng (-1) (np-1) zl) (h15 : 0 ≤ ar ∧ ar ≤ 1) (h16 : -1 ≤ tk ∧ tk ≤ re ∧ (tk = -1 ∨ (0 ≤ cp ∧ cp ≤ tk))) (h17 : rng 0 (np-1) zx) (h18 : 0 ≤ fe ∧ fe ≤ 304) (h19 : ru = 0 ∨ ru = 1) (h20 : ru = 0 → tk = -1) (h21 : 0 ≤ wa ∧ wa ≤ 304) (h22 : 1 ≤ ne ∧ ne ≤ 200) (h23 : rng 0 1 zm) : Ct lw_T l yX5_wrong cX5_wrong 1 (some .int) { frames := 0, cells := 0, slots := 0, locals := 0 } 0 0 D cls5 (TY K) [.ref x] [oX5 x d y u sa ru ar sq ge ne wa fe tk cp xc, oX0 d sc db dq dt wc, aB K db nb zb, aB K dq 32768 zq, aI K dt 64 zt, oX3 y yk yn yc ya yd yl lp re wp lw, aI K yk np zk, aI K yn np zn, aI K yc np zc, aI K ya na za, aL K yd np fd, aI K yl 64 zl, oX4 u um ud, aZ K um 64 zm, aL K ud 64 fu, aI K xc np zx] (fun v wo => v = some (.int (iZ wa)) ∧ wo = [oX5 x d y u sa ru ar sq ge ne wa fe tk cp xc, oX0 d sc db dq dt wc, aB K db nb zb, aB K dq 32768 zq, aI K dt 64 zt, oX3 y yk yn yc ya yd yl lp re wp lw, aI K yk np zk, aI K yn np zn, aI K yc np zc, aI K ya na za, aL K yd np fd, aI K yl 64 zl, oX4 u um ud, aZ K um 64 zm, aL K ud 64 fu, aI K xc np zx]) := by
  refine ct_of (own := RX5) (lv := [(0, .ref x)]) (by decide) rfl (Nat.le_of_ble_eq_true rfl) rfl (fun C F hr hnm hzl => ?_)
  subst hzl
  refine z_aload_n F 0 dX5_wrong_0 rfl ?_
  refine z_get F 0 9 iX5 rfl rfl (by decide) t1_118 rfl dX5_wrong_1 ?_
  exact z_iret F hr dX5_wrong_4 (by omega) ⟨rfl, rfl⟩
set_option maxHeartbeats 4000000 in
set_option maxRecDepth 20000 in
theorem k_X5_lock (l : Launch) (D : va_G) (K : KI) (x : Nat) (sa : Int) (ru : Int) (ar : Int) (sq : Int) (ge : Int) (ne : Int) (wa : Int) (fe : Int) (tk : Int) (cp : Int) (xc : Nat) (u : Nat) (d : Nat) (sc : Int) (db : Nat) (dq : Nat) (dt : Nat) (wc : Int) (nb : Nat) (zb : Nat → Int) (zq : Nat → Int) (zt : Nat → Int) (y : Nat) (yk : Nat) (yn : Nat) (yc : Nat) (ya : Nat) (yd : Nat) (yl : Nat) (lp : Int) (re : Int) (wp : Int) (lw : Int) (np : Nat) (na : Nat) (zk : Nat → Int) (zn : Nat → Int) (zc : Nat → Int) (za : Nat → Int) (fd : Nat → Int64) (zl : Nat → Int) (um : Nat) (ud : Nat) (zm : Nat → Int) (fu : Nat → Int64) (zx : Nat → Int) (k : Int) (h0 : 4 ≤ sc ∧ sc ≤ 40 ∧ (nb : Int) = 512 * sc) (h1 : 1 ≤ sa ∧ 2 * sa ≤ sc - 2 ∧ (np : Int) = 16 * sa ∧ (na : Int) = 6 * np) (h2 : 0 ≤ wc ∧ wc ≤ 64) (h3 : rng (-128) 127 zb) (h4 : rng (-128) 127 zq) (h5 : rng 0 (sc-1) zt) (h6 : 0 ≤ re ∧ re ≤ np) (h7 : -1 ≤ lp ∧ lp ≤ np - 1 ∧ 0 ≤ wp ∧ wp ≤ re ∧ -1 ≤ lw ∧ lw ≤ np - 1) (h8 : rng 0 3 zk) (h9 : rng (-128) 127 zn) (h10 : nmOk zk zn) (h11 : rng 0 6 zc) (h12 : rng (-128) 127 za) (h13 : akOk zc za) (h14 : rng (-1) (np-1) zl) (h15 : 0 ≤ ar ∧ ar ≤ 1) (h16 : -1 ≤ tk ∧ tk ≤ re ∧ (tk = -1 ∨ (0 ≤ cp ∧ cp ≤ tk))) (h17 : rng 0 (np-1) zx) (h18 : 0 ≤ fe ∧ fe ≤ 304) (h19 : ru = 0 ∨ ru = 1) (h20 : ru = 0 → tk = -1) (h21 : 0 ≤ wa ∧ wa ≤ 304) (h22 : 1 ≤ ne ∧ ne ≤ 200) (h23 : rng 0 1 zm) (h24 : -2147483648 ≤ k ∧ k ≤ 2147483647) : Ct lw_T l yX5_lock cX5_lock 3 (some .int) { frames := 5, cells := 0, slots := 0, locals := 137 } 0 0 D cls5 (TY K) [.ref x, .int (iZ k)] [oX5 x d y u sa ru ar sq ge ne wa fe tk cp xc, oX0 d sc db dq dt wc, aB K db nb zb, aB K dq 32768 zq, aI K dt 64 zt, oX3 y yk yn yc ya yd yl lp re wp lw, aI K yk np zk, aI K yn np zn, aI K yc np zc, aI K ya na za, aL K yd np fd, aI K yl 64 zl, oX4 u um ud, aZ K um 64 zm, aL K ud 64 fu, aI K xc np zx] (fun v wo => ∃ (r : Int), ∃ (wc2 : Int), ∃ (zb2 : Nat → Int), ∃ (zq2 : Nat → Int), ∃ (zt2 : Nat → Int), ∃ (lp2 : Int), ∃ (re2 : Int), ∃ (wp2 : Int), ∃ (lw2 : Int), ∃ (zk2 : Nat → Int), ∃ (zn2 : Nat → Int), ∃ (zc2 : Nat → Int), ∃ (fd2 : Nat → Int64), ∃ (zl2 : Nat → Int), v = some (.int (iZ r)) ∧ wo = [oX5 x d y u sa ru ar sq ge ne wa fe tk cp xc, oX0 d sc db dq dt wc2, aB K db nb zb2, aB K dq 32768 zq2, aI K dt 64 zt2, oX3 y yk yn yc ya yd yl lp2 re2 wp2 lw2, aI K yk np zk2, aI K yn np zn2, aI K yc np zc2, aI K ya na za, aL K yd np fd2, aI K yl 64 zl2, oX4 u um ud, aZ K um 64 zm, aL K ud 64 fu, aI K xc np zx] ∧ (-4 ≤ r ∧ r ≤ 1) ∧ (ru = 0 → ((0 ≤ k ∧ k ≤ 7 → r = -3) ∧ (¬ (0 ≤ k ∧ k ≤ 7) → r = -2))) ∧ (0 ≤ wc2 ∧ wc2 ≤ 64) ∧ (rng (-128) 127 zb2) ∧ (rng (-128) 127 zq2) ∧ (rng 0 (sc-1) zt2) ∧ (re ≤ re2) ∧ (0 ≤ re2 ∧ re2 ≤ np) ∧ (-1 ≤ lp2 ∧ lp2 ≤ np - 1 ∧ 0 ≤ wp2 ∧ wp2 ≤ re2 ∧ -1 ≤ lw2 ∧ lw2 ≤ np - 1) ∧ (rng 0 3 zk2) ∧ (rng (-128) 127 zn2) ∧ (nmOk zk2 zn2) ∧ (rng 0 6 zc2) ∧ (akOk zc2 za) ∧ (rng (-1) (np-1) zl2)) := by
  refine ct_of (own := RX5) (lv := [(0, .ref x), (1, .int (iZ k))]) (by decide) rfl (Nat.le_of_ble_eq_true rfl) rfl (fun C F hr hnm hzl => ?_)
  subst hzl
  refine z_iload_n F 1 dX5_lock_0 rfl ?_
  refine z_callS F lw_good (k_X3_isUser _ D K k h24) t2_9 t1_4 t2_195 t2_8 ⟨rfl, rfl⟩ ndX3_isUser ⟨Nat.le_of_ble_eq_true rfl, Nat.le_of_ble_eq_true rfl⟩ (rest := []) rfl (Nat.le_of_ble_eq_true rfl) dX5_lock_1 ⟨(show 0 + 0 ≤ 0 by omega), (show 0 + 0 ≤ 0 by omega)⟩ (wr := [oX5 x d y u sa ru ar sq ge ne wa fe tk cp xc, oX0 d sc db dq dt wc, aB K db nb zb, aB K dq 32768 zq, aI K dt 64 zt, oX3 y yk yn yc ya yd yl lp re wp lw, aI K yk np zk, aI K yn np zn, aI K yc np zc, aI K ya na za, aL K yd np fd, aI K yl 64 zl, oX4 u um ud, aZ K um 64 zm, aL K ud 64 fu, aI K xc np zx]) ([] : List Nat) ([0, 1, 2, 3, 4, 5, 6, 7, 8, 9, 10, 11, 12, 13, 14, 15] : List Nat) rfl rfl rfl rfl (by decide) (fun v wo hp => ?_)
  obtain ⟨r_1, rfl, rfl, f2⟩ := hp
  refine z_re F (ws' := [oX5 x d y u sa ru ar sq ge ne wa fe tk cp xc, oX0 d sc db dq dt wc, aB K db nb zb, aB K dq 32768 zq, aI K dt 64 zt, oX3 y yk yn yc ya yd yl lp re wp lw, aI K yk np zk, aI K yn np zn, aI K yc np zc, aI K ya na za, aL K yd np fd, aI K yl 64 zl, oX4 u um ud, aZ K um 64 zm, aL K ud 64 fu, aI K xc np zx]) (st' := [.int (iZ r_1)]) ([0, 1, 2, 3, 4, 5, 6, 7, 8, 9, 10, 11, 12, 13, 14, 15] : List Nat) rfl rfl rfl ?_
  refine z_if_ne F 10 dX5_lock_4 (by decide) (by omega) (fun c3 => ?_) (fun c3 => ?_)
  · refine z_aload_n F 0 dX5_lock_10 rfl ?_
    refine z_get F 0 4 iX5 rfl rfl (by decide) t1_113 rfl dX5_lock_11 ?_
    refine z_if_ne F 20 dX5_lock_14 (by decide) (by omega) (fun c4 => ?_) (fun c4 => ?_)
    · refine z_aload_n F 0 dX5_lock_20 rfl ?_
      refine z_get F 0 1 iX5 rfl rfl (by decide) t1_110 rfl dX5_lock_21 ?_
      refine z_callV F lw_good (k_X3_lockHolder _ D K y yk yn yc ya yd yl lp re wp lw np zk zn (by omega) (by omega) h8 h9) t2_199 t1_4 t2_196 t2_197 (q := (RX3, TX3, 10)) t2_198 ⟨rfl, rfl⟩ ndX3_lockHolder ⟨Nat.le_of_ble_eq_true rfl, Nat.le_of_ble_eq_true rfl⟩ 0 rfl rfl (rest := []) rfl (Nat.le_of_ble_eq_true rfl) dX5_lock_24 ⟨(show 0 + 0 ≤ 0 by omega), (show 0 + 0 ≤ 0 by omega)⟩ (wr := [oX5 x d y u sa ru ar sq ge ne wa fe tk cp xc, oX0 d sc db dq dt wc, aB K db nb zb, aB K dq 32768 zq, aI K dt 64 zt, aI K yc np zc, aI K ya na za, aL K yd np fd, aI K yl 64 zl, oX4 u um ud, aZ K um 64 zm, aL K ud 64 fu, aI K xc np zx]) ([5, 6, 7] : List Nat) ([0, 1, 2, 3, 4, 8, 9, 10, 11, 12, 13, 14, 15] : List Nat) rfl rfl rfl rfl (by decide) (fun v wo hp => ?_)
      obtain ⟨r_5, rfl, rfl, f6⟩ := hp
      refine z_re F (ws' := [oX5 x d y u sa ru ar sq ge ne wa fe tk cp xc, oX0 d sc db dq dt wc, aB K db nb zb, aB K dq 32768 zq, aI K dt 64 zt, oX3 y yk yn yc ya yd yl lp re wp lw, aI K yk np zk, aI K yn np zn, aI K yc np zc, aI K ya na za, aL K yd np fd, aI K yl 64 zl, oX4 u um ud, aZ K um 64 zm, aL K ud 64 fu, aI K xc np zx]) (st' := [.int (iZ r_5)]) ([0, 1, 2, 3, 4, 13, 14, 15, 5, 6, 7, 8, 9, 10, 11, 12] : List Nat) rfl rfl rfl ?_
      refine z_istore_n F (lv' := [(2, .int (iZ r_5)), (0, .ref x), (1, .int (iZ k))]) dX5_lock_27 (by decide) rfl ?_
      refine z_iload_n F 0 dX5_lock_28 rfl ?_
      refine z_iconst F dX5_lock_29 ?_
      refine z_icmp_eq F 44 dX5_lock_30 (by decide) (by omega) (fun c7 => ?_) (fun c7 => ?_)
      · refine z_aload_n F 1 dX5_lock_44 rfl ?_
        refine z_iconst F dX5_lock_45 ?_
        refine z_iload_n F 2 dX5_lock_46 rfl ?_
        refine z_lconst F (v := 0) dX5_lock_47 (by decide) ?_
        refine z_callV F lw_good (k_X5_keep _ D K x sa ru ar sq ge ne wa fe tk cp xc u d sc db dq dt wc nb zb zq zt y yk yn yc ya yd yl lp re wp lw np na zk zn zc za fd zl 2 k 0 h0 h1 h2 h3 h4 h5 h6 h7 h8 h9 h10 h11 h12 h13 h14 h15 (by omega)) t2_49 t1_1 t2_46 t2_48 (q := (RX5, TX5, 14)) ts_10 ⟨rfl, rfl⟩ ndX5_keep ⟨Nat.le_of_ble_eq_true rfl, Nat.le_of_ble_eq_true rfl⟩ 0 rfl rfl (rest := []) rfl (Nat.le_of_ble_eq_true rfl) dX5_lock_48 ⟨(show 0 + 0 ≤ 0 by omega), (show 0 + 0 ≤ 0 by omega)⟩ (wr := [oX4 u um ud, aZ K um 64 zm, aL K ud 64 fu, aI K xc np zx]) ([0, 1, 2, 3, 4, 5, 6, 7, 8, 9, 10, 11] : List Nat) ([12, 13, 14, 15] : List Nat) rfl rfl rfl rfl (by decide) (fun v wo hp => ?_)
        obtain ⟨r_8, wc2_9, zb2_10, zq2_11, zt2_12, lp2_13, re2_14, wp2_15, lw2_16, zk2_17, zn2_18, zc2_19, fd2_20, zl2_21, rfl, rfl, f22, f23, f24, f25, f26, f27, f28, f29, f30, f31, f32, f33, f34, f35⟩ := hp
        refine z_re F (ws' := [oX5 x d y u sa ru ar sq ge ne wa fe tk cp xc, oX0 d sc db dq dt wc2_9, aB K db nb zb2_10, aB K dq 32768 zq2_11, aI K dt 64 zt2_12, oX3 y yk yn yc ya yd yl lp2_13 re2_14 wp2_15 lw2_16, aI K yk np zk2_17, aI K yn np zn2_18, aI K yc np zc2_19, aI K ya na za, aL K yd np fd2_20, aI K yl 64 zl2_21, oX4 u um ud, aZ K um 64 zm, aL K ud 64 fu, aI K xc np zx]) (st' := [.int (iZ r_8)]) ([4, 5, 6, 7, 8, 9, 10, 11, 12, 13, 14, 15, 0, 1, 2, 3] : List Nat) rfl rfl rfl ?_
        refine z_iconst F dX5_lock_51 ?_
        refine z_icmp_ne F 60 dX5_lock_52 (by decide) (by omega) (fun c36 => ?_) (fun c36 => ?_)
        · refine z_iconst F dX5_lock_60 ?_
          exact z_iret F hr dX5_lock_61 (by omega) ⟨1, wc2_9, zb2_10, zq2_11, zt2_12, lp2_13, re2_14, wp2_15, lw2_16, zk2_17, zn2_18, zc2_19, fd2_20, zl2_21, rfl, rfl, (by omega), (by omega), f23, f24, f25, f26, f27, f28, f29, f30, f31, f32, f33, f34, f35⟩
        · refine z_bipush F dX5_lock_55 (by decide) ?_
          refine z_goto F 61 dX5_lock_57 (by decide) ?_
          exact z_iret F hr dX5_lock_61 (by omega) ⟨(-4), wc2_9, zb2_10, zq2_11, zt2_12, lp2_13, re2_14, wp2_15, lw2_16, zk2_17, zn2_18, zc2_19, fd2_20, zl2_21, rfl, rfl, (by omega), (by omega), f23, f24, f25, f26, f27, f28, f29, f30, f31, f32, f33, f34, f35⟩
      · refine z_iload_n F 0 dX5_lock_33 rfl ?_
        refine z_iload_n F 2 dX5_lock_34 rfl ?_
        refine z_icmp_ne F 42 dX5_lock_35 (by decide) (by omega) (fun c37 => ?_) (fun c37 => ?_)
        · refine z_iconst F dX5_lock_42 ?_
          exact z_iret F hr dX5_lock_43 (by omega) ⟨0, wc, zb, zq, zt, lp, re, wp, lw, zk, zn, zc, fd, zl, rfl, rfl, (by omega), (by omega), h2, h3, h4, h5, (by omega), h6, h7, h8, h9, h10, h11, h13, h14⟩
        · refine z_iconst F dX5_lock_38 ?_
          refine z_goto F 43 dX5_lock_39 (by decide) ?_
          exact z_iret F hr dX5_lock_43 (by omega) ⟨1, wc, zb, zq, zt, lp, re, wp, lw, zk, zn, zc, fd, zl, rfl, rfl, (by omega), (by omega), h2, h3, h4, h5, (by omega), h6, h7, h8, h9, h10, h11, h13, h14⟩
    · refine z_bipush F dX5_lock_17 (by decide) ?_
      exact z_iret F hr dX5_lock_19 (by omega) ⟨(-3), wc, zb, zq, zt, lp, re, wp, lw, zk, zn, zc, fd, zl, rfl, rfl, (by omega), (by omega), h2, h3, h4, h5, (by omega), h6, h7, h8, h9, h10, h11, h13, h14⟩
  · refine z_bipush F dX5_lock_7 (by decide) ?_
    exact z_iret F hr dX5_lock_9 (by omega) ⟨(-2), wc, zb, zq, zt, lp, re, wp, lw, zk, zn, zc, fd, zl, rfl, rfl, (by omega), (by omega), h2, h3, h4, h5, (by omega), h6, h7, h8, h9, h10, h11, h13, h14⟩
set_option maxHeartbeats 4000000 in
set_option maxRecDepth 20000 in
theorem k_X5_dead (l : Launch) (D : va_G) (K : KI) (x : Nat) (sa : Int) (ru : Int) (ar : Int) (sq : Int) (ge : Int) (ne : Int) (wa : Int) (fe : Int) (tk : Int) (cp : Int) (xc : Nat) (u : Nat) (d : Nat) (sc : Int) (db : Nat) (dq : Nat) (dt : Nat) (wc : Int) (nb : Nat) (zb : Nat → Int) (zq : Nat → Int) (zt : Nat → Int) (y : Nat) (yk : Nat) (yn : Nat) (yc : Nat) (ya : Nat) (yd : Nat) (yl : Nat) (lp : Int) (re : Int) (wp : Int) (lw : Int) (np : Nat) (na : Nat) (zk : Nat → Int) (zn : Nat → Int) (zc : Nat → Int) (za : Nat → Int) (fd : Nat → Int64) (zl : Nat → Int) (um : Nat) (ud : Nat) (zm : Nat → Int) (fu : Nat → Int64) (zx : Nat → Int) (k : Int) (h0 : 4 ≤ sc ∧ sc ≤ 40 ∧ (nb : Int) = 512 * sc) (h1 : 1 ≤ sa ∧ 2 * sa ≤ sc - 2 ∧ (np : Int) = 16 * sa ∧ (na : Int) = 6 * np) (h2 : 0 ≤ wc ∧ wc ≤ 64) (h3 : rng (-128) 127 zb) (h4 : rng (-128) 127 zq) (h5 : rng 0 (sc-1) zt) (h6 : 0 ≤ re ∧ re ≤ np) (h7 : -1 ≤ lp ∧ lp ≤ np - 1 ∧ 0 ≤ wp ∧ wp ≤ re ∧ -1 ≤ lw ∧ lw ≤ np - 1) (h8 : rng 0 3 zk) (h9 : rng (-128) 127 zn) (h10 : nmOk zk zn) (h11 : rng 0 6 zc) (h12 : rng (-128) 127 za) (h13 : akOk zc za) (h14 : rng (-1) (np-1) zl) (h15 : 0 ≤ ar ∧ ar ≤ 1) (h16 : -1 ≤ tk ∧ tk ≤ re ∧ (tk = -1 ∨ (0 ≤ cp ∧ cp ≤ tk))) (h17 : rng 0 (np-1) zx) (h18 : 0 ≤ fe ∧ fe ≤ 304) (h19 : ru = 0 ∨ ru = 1) (h20 : ru = 0 → tk = -1) (h21 : 0 ≤ wa ∧ wa ≤ 304) (h22 : 1 ≤ ne ∧ ne ≤ 200) (h23 : rng 0 1 zm) (h24 : -2147483648 ≤ k ∧ k ≤ 2147483647) : Ct lw_T l yX5_dead cX5_dead 2 (some .int) { frames := 5, cells := 0, slots := 0, locals := 137 } 0 0 D cls5 (TY K) [.ref x, .int (iZ k)] [oX5 x d y u sa ru ar sq ge ne wa fe tk cp xc, oX0 d sc db dq dt wc, aB K db nb zb, aB K dq 32768 zq, aI K dt 64 zt, oX3 y yk yn yc ya yd yl lp re wp lw, aI K yk np zk, aI K yn np zn, aI K yc np zc, aI K ya na za, aL K yd np fd, aI K yl 64 zl, oX4 u um ud, aZ K um 64 zm, aL K ud 64 fu, aI K xc np zx] (fun v wo => ∃ (r : Int), ∃ (wc2 : Int), ∃ (zb2 : Nat → Int), ∃ (zq2 : Nat → Int), ∃ (zt2 : Nat → Int), ∃ (lp2 : Int), ∃ (re2 : Int), ∃ (wp2 : Int), ∃ (lw2 : Int), ∃ (zk2 : Nat → Int), ∃ (zn2 : Nat → Int), ∃ (zc2 : Nat → Int), ∃ (fd2 : Nat → Int64), ∃ (zl2 : Nat → Int), v = some (.int (iZ r)) ∧ wo = [oX5 x d y u sa ru ar sq ge ne wa fe tk cp xc, oX0 d sc db dq dt wc2, aB K db nb zb2, aB K dq 32768 zq2, aI K dt 64 zt2, oX3 y yk yn yc ya yd yl lp2 re2 wp2 lw2, aI K yk np zk2, aI K yn np zn2, aI K yc np zc2, aI K ya na za, aL K yd np fd2, aI K yl 64 zl2, oX4 u um ud, aZ K um 64 zm, aL K ud 64 fu, aI K xc np zx] ∧ (-4 ≤ r ∧ r ≤ 1) ∧ (ru = 0 → ((0 ≤ k ∧ k ≤ 7 → r = -3) ∧ (¬ (0 ≤ k ∧ k ≤ 7) → r = -2))) ∧ (0 ≤ wc2 ∧ wc2 ≤ 64) ∧ (rng (-128) 127 zb2) ∧ (rng (-128) 127 zq2) ∧ (rng 0 (sc-1) zt2) ∧ (re ≤ re2) ∧ (0 ≤ re2 ∧ re2 ≤ np) ∧ (-1 ≤ lp2 ∧ lp2 ≤ np - 1 ∧ 0 ≤ wp2 ∧ wp2 ≤ re2 ∧ -1 ≤ lw2 ∧ lw2 ≤ np - 1) ∧ (rng 0 3 zk2) ∧ (rng (-128) 127 zn2) ∧ (nmOk zk2 zn2) ∧ (rng 0 6 zc2) ∧ (akOk zc2 za) ∧ (rng (-1) (np-1) zl2)) := by
  refine ct_of (own := RX5) (lv := [(0, .ref x), (1, .int (iZ k))]) (by decide) rfl (Nat.le_of_ble_eq_true rfl) rfl (fun C F hr hnm hzl => ?_)
  subst hzl
  refine z_iload_n F 1 dX5_dead_0 rfl ?_
  refine z_callS F lw_good (k_X3_isUser _ D K k h24) t2_9 t1_4 t2_195 t2_8 ⟨rfl, rfl⟩ ndX3_isUser ⟨Nat.le_of_ble_eq_true rfl, Nat.le_of_ble_eq_true rfl⟩ (rest := []) rfl (Nat.le_of_ble_eq_true rfl) dX5_dead_1 ⟨(show 0 + 0 ≤ 0 by omega), (show 0 + 0 ≤ 0 by omega)⟩ (wr := [oX5 x d y u sa ru ar sq ge ne wa fe tk cp xc, oX0 d sc db dq dt wc, aB K db nb zb, aB K dq 32768 zq, aI K dt 64 zt, oX3 y yk yn yc ya yd yl lp re wp lw, aI K yk np zk, aI K yn np zn, aI K yc np zc, aI K ya na za, aL K yd np fd, aI K yl 64 zl, oX4 u um ud, aZ K um 64 zm, aL K ud 64 fu, aI K xc np zx]) ([] : List Nat) ([0, 1, 2, 3, 4, 5, 6, 7, 8, 9, 10, 11, 12, 13, 14, 15] : List Nat) rfl rfl rfl rfl (by decide) (fun v wo hp => ?_)
  obtain ⟨r_1, rfl, rfl, f2⟩ := hp
  refine z_re F (ws' := [oX5 x d y u sa ru ar sq ge ne wa fe tk cp xc, oX0 d sc db dq dt wc, aB K db nb zb, aB K dq 32768 zq, aI K dt 64 zt, oX3 y yk yn yc ya yd yl lp re wp lw, aI K yk np zk, aI K yn np zn, aI K yc np zc, aI K ya na za, aL K yd np fd, aI K yl 64 zl, oX4 u um ud, aZ K um 64 zm, aL K ud 64 fu, aI K xc np zx]) (st' := [.int (iZ r_1)]) ([0, 1, 2, 3, 4, 5, 6, 7, 8, 9, 10, 11, 12, 13, 14, 15] : List Nat) rfl rfl rfl ?_
  refine z_if_ne F 10 dX5_dead_4 (by decide) (by omega) (fun c3 => ?_) (fun c3 => ?_)
  · refine z_aload_n F 0 dX5_dead_10 rfl ?_
    refine z_get F 0 4 iX5 rfl rfl (by decide) t1_113 rfl dX5_dead_11 ?_
    refine z_if_ne F 20 dX5_dead_14 (by decide) (by omega) (fun c4 => ?_) (fun c4 => ?_)
    · refine z_aload_n F 0 dX5_dead_20 rfl ?_
      refine z_get F 0 1 iX5 rfl rfl (by decide) t1_110 rfl dX5_dead_21 ?_
      refine z_callV F lw_good (k_X3_lockHolder _ D K y yk yn yc ya yd yl lp re wp lw np zk zn (by omega) (by omega) h8 h9) t2_199 t1_4 t2_196 t2_197 (q := (RX3, TX3, 10)) t2_198 ⟨rfl, rfl⟩ ndX3_lockHolder ⟨Nat.le_of_ble_eq_true rfl, Nat.le_of_ble_eq_true rfl⟩ 0 rfl rfl (rest := []) rfl (Nat.le_of_ble_eq_true rfl) dX5_dead_24 ⟨(show 0 + 0 ≤ 0 by omega), (show 0 + 0 ≤ 0 by omega)⟩ (wr := [oX5 x d y u sa ru ar sq ge ne wa fe tk cp xc, oX0 d sc db dq dt wc, aB K db nb zb, aB K dq 32768 zq, aI K dt 64 zt, aI K yc np zc, aI K ya na za, aL K yd np fd, aI K yl 64 zl, oX4 u um ud, aZ K um 64 zm, aL K ud 64 fu, aI K xc np zx]) ([5, 6, 7] : List Nat) ([0, 1, 2, 3, 4, 8, 9, 10, 11, 12, 13, 14, 15] : List Nat) rfl rfl rfl rfl (by decide) (fun v wo hp => ?_)
      obtain ⟨r_5, rfl, rfl, f6⟩ := hp
      refine z_re F (ws' := [oX5 x d y u sa ru ar sq ge ne wa fe tk cp xc, oX0 d sc db dq dt wc, aB K db nb zb, aB K dq 32768 zq, aI K dt 64 zt, oX3 y yk yn yc ya yd yl lp re wp lw, aI K yk np zk, aI K yn np zn, aI K yc np zc, aI K ya na za, aL K yd np fd, aI K yl 64 zl, oX4 u um ud, aZ K um 64 zm, aL K ud 64 fu, aI K xc np zx]) (st' := [.int (iZ r_5)]) ([0, 1, 2, 3, 4, 13, 14, 15, 5, 6, 7, 8, 9, 10, 11, 12] : List Nat) rfl rfl rfl ?_
      refine z_iload_n F 1 dX5_dead_27 rfl ?_
      refine z_icmp_eq F 33 dX5_dead_28 (by decide) (by omega) (fun c7 => ?_) (fun c7 => ?_)
      · refine z_aload_n F 0 dX5_dead_33 rfl ?_
        refine z_iconst F dX5_dead_34 ?_
        refine z_iload_n F 1 dX5_dead_35 rfl ?_
        refine z_lconst F (v := 0) dX5_dead_36 (by decide) ?_
        refine z_callV F lw_good (k_X5_keep _ D K x sa ru ar sq ge ne wa fe tk cp xc u d sc db dq dt wc nb zb zq zt y yk yn yc ya yd yl lp re wp lw np na zk zn zc za fd zl 3 k 0 h0 h1 h2 h3 h4 h5 h6 h7 h8 h9 h10 h11 h12 h13 h14 h15 (by omega)) t2_49 t1_1 t2_46 t2_48 (q := (RX5, TX5, 14)) ts_10 ⟨rfl, rfl⟩ ndX5_keep ⟨Nat.le_of_ble_eq_true rfl, Nat.le_of_ble_eq_true rfl⟩ 0 rfl rfl (rest := []) rfl (Nat.le_of_ble_eq_true rfl) dX5_dead_37 ⟨(show 0 + 0 ≤ 0 by omega), (show 0 + 0 ≤ 0 by omega)⟩ (wr := [oX4 u um ud, aZ K um 64 zm, aL K ud 64 fu, aI K xc np zx]) ([0, 1, 2, 3, 4, 5, 6, 7, 8, 9, 10, 11] : List Nat) ([12, 13, 14, 15] : List Nat) rfl rfl rfl rfl (by decide) (fun v wo hp => ?_)
        obtain ⟨r_8, wc2_9, zb2_10, zq2_11, zt2_12, lp2_13, re2_14, wp2_15, lw2_16, zk2_17, zn2_18, zc2_19, fd2_20, zl2_21, rfl, rfl, f22, f23, f24, f25, f26, f27, f28, f29, f30, f31, f32, f33, f34, f35⟩ := hp
        refine z_re F (ws' := [oX5 x d y u sa ru ar sq ge ne wa fe tk cp xc, oX0 d sc db dq dt wc2_9, aB K db nb zb2_10, aB K dq 32768 zq2_11, aI K dt 64 zt2_12, oX3 y yk yn yc ya yd yl lp2_13 re2_14 wp2_15 lw2_16, aI K yk np zk2_17, aI K yn np zn2_18, aI K yc np zc2_19, aI K ya na za, aL K yd np fd2_20, aI K yl 64 zl2_21, oX4 u um ud, aZ K um 64 zm, aL K ud 64 fu, aI K xc np zx]) (st' := [.int (iZ r_8)]) ([4, 5, 6, 7, 8, 9, 10, 11, 12, 13, 14, 15, 0, 1, 2, 3] : List Nat) rfl rfl rfl ?_
        refine z_iconst F dX5_dead_40 ?_
        refine z_icmp_ne F 49 dX5_dead_41 (by decide) (by omega) (fun c36 => ?_) (fun c36 => ?_)
        · refine z_iconst F dX5_dead_49 ?_
          exact z_iret F hr dX5_dead_50 (by omega) ⟨1, wc2_9, zb2_10, zq2_11, zt2_12, lp2_13, re2_14, wp2_15, lw2_16, zk2_17, zn2_18, zc2_19, fd2_20, zl2_21, rfl, rfl, (by omega), (by omega), f23, f24, f25, f26, f27, f28, f29, f30, f31, f32, f33, f34, f35⟩
        · refine z_bipush F dX5_dead_44 (by decide) ?_
          refine z_goto F 50 dX5_dead_46 (by decide) ?_
          exact z_iret F hr dX5_dead_50 (by omega) ⟨(-4), wc2_9, zb2_10, zq2_11, zt2_12, lp2_13, re2_14, wp2_15, lw2_16, zk2_17, zn2_18, zc2_19, fd2_20, zl2_21, rfl, rfl, (by omega), (by omega), f23, f24, f25, f26, f27, f28, f29, f30, f31, f32, f33, f34, f35⟩
      · refine z_iconst F dX5_dead_31 ?_
        exact z_iret F hr dX5_dead_32 (by omega) ⟨0, wc, zb, zq, zt, lp, re, wp, lw, zk, zn, zc, fd, zl, rfl, rfl, (by omega), (by omega), h2, h3, h4, h5, (by omega), h6, h7, h8, h9, h10, h11, h13, h14⟩
    · refine z_bipush F dX5_dead_17 (by decide) ?_
      exact z_iret F hr dX5_dead_19 (by omega) ⟨(-3), wc, zb, zq, zt, lp, re, wp, lw, zk, zn, zc, fd, zl, rfl, rfl, (by omega), (by omega), h2, h3, h4, h5, (by omega), h6, h7, h8, h9, h10, h11, h13, h14⟩
  · refine z_bipush F dX5_dead_7 (by decide) ?_
    exact z_iret F hr dX5_dead_9 (by omega) ⟨(-2), wc, zb, zq, zt, lp, re, wp, lw, zk, zn, zc, fd, zl, rfl, rfl, (by omega), (by omega), h2, h3, h4, h5, (by omega), h6, h7, h8, h9, h10, h11, h13, h14⟩
set_option maxHeartbeats 4000000 in
set_option maxRecDepth 20000 in
theorem k_X5_edition (l : Launch) (D : va_G) (K : KI) (x : Nat) (sa : Int) (ru : Int) (ar : Int) (sq : Int) (ge : Int) (ne : Int) (wa : Int) (fe : Int) (tk : Int) (cp : Int) (xc : Nat) (u : Nat) (d : Nat) (sc : Int) (db : Nat) (dq : Nat) (dt : Nat) (wc : Int) (nb : Nat) (zb : Nat → Int) (zq : Nat → Int) (zt : Nat → Int) (y : Nat) (yk : Nat) (yn : Nat) (yc : Nat) (ya : Nat) (yd : Nat) (yl : Nat) (lp : Int) (re : Int) (wp : Int) (lw : Int) (np : Nat) (na : Nat) (zk : Nat → Int) (zn : Nat → Int) (zc : Nat → Int) (za : Nat → Int) (fd : Nat → Int64) (zl : Nat → Int) (um : Nat) (ud : Nat) (zm : Nat → Int) (fu : Nat → Int64) (zx : Nat → Int) (e0 : Int) (h0 : 4 ≤ sc ∧ sc ≤ 40 ∧ (nb : Int) = 512 * sc) (h1 : 1 ≤ sa ∧ 2 * sa ≤ sc - 2 ∧ (np : Int) = 16 * sa ∧ (na : Int) = 6 * np) (h2 : 0 ≤ wc ∧ wc ≤ 64) (h3 : rng (-128) 127 zb) (h4 : rng (-128) 127 zq) (h5 : rng 0 (sc-1) zt) (h6 : 0 ≤ re ∧ re ≤ np) (h7 : -1 ≤ lp ∧ lp ≤ np - 1 ∧ 0 ≤ wp ∧ wp ≤ re ∧ -1 ≤ lw ∧ lw ≤ np - 1) (h8 : rng 0 3 zk) (h9 : rng (-128) 127 zn) (h10 : nmOk zk zn) (h11 : rng 0 6 zc) (h12 : rng (-128) 127 za) (h13 : akOk zc za) (h14 : rng (-1) (np-1) zl) (h15 : 0 ≤ ar ∧ ar ≤ 1) (h16 : -1 ≤ tk ∧ tk ≤ re ∧ (tk = -1 ∨ (0 ≤ cp ∧ cp ≤ tk))) (h17 : rng 0 (np-1) zx) (h18 : 0 ≤ fe ∧ fe ≤ 304) (h19 : ru = 0 ∨ ru = 1) (h20 : ru = 0 → tk = -1) (h21 : 0 ≤ wa ∧ wa ≤ 304) (h22 : 1 ≤ ne ∧ ne ≤ 200) (h23 : rng 0 1 zm) (h24 : -2147483648 ≤ e0 ∧ e0 ≤ 2147483647) : Ct lw_T l yX5_edition cX5_edition 2 (some .int) { frames := 0, cells := 0, slots := 0, locals := 0 } 0 0 D cls5 (TY K) [.ref x, .int (iZ e0)] [oX5 x d y u sa ru ar sq ge ne wa fe tk cp xc, oX0 d sc db dq dt wc, aB K db nb zb, aB K dq 32768 zq, aI K dt 64 zt, oX3 y yk yn yc ya yd yl lp re wp lw, aI K yk np zk, aI K yn np zn, aI K yc np zc, aI K ya na za, aL K yd np fd, aI K yl 64 zl, oX4 u um ud, aZ K um 64 zm, aL K ud 64 fu, aI K xc np zx] (fun v wo => ∃ (r : Int), ∃ (ne2 : Int), v = some (.int (iZ r)) ∧ wo = [oX5 x d y u sa ru ar sq ge ne2 wa fe tk cp xc, oX0 d sc db dq dt wc, aB K db nb zb, aB K dq 32768 zq, aI K dt 64 zt, oX3 y yk yn yc ya yd yl lp re wp lw, aI K yk np zk, aI K yn np zn, aI K yc np zc, aI K ya na za, aL K yd np fd, aI K yl 64 zl, oX4 u um ud, aZ K um 64 zm, aL K ud 64 fu, aI K xc np zx] ∧ (((1 ≤ e0 ∧ e0 ≤ 200) → r = 1) ∧ (¬ (1 ≤ e0 ∧ e0 ≤ 200) → r = -2)) ∧ (1 ≤ ne2 ∧ ne2 ≤ 200)) := by
  refine ct_of (own := RX5) (lv := [(0, .ref x), (1, .int (iZ e0))]) (by decide) rfl (Nat.le_of_ble_eq_true rfl) rfl (fun C F hr hnm hzl => ?_)
  subst hzl
  refine z_iload_n F 1 dX5_edition_0 rfl ?_
  refine z_iconst F dX5_edition_1 ?_
  refine z_icmp_lt F 12 dX5_edition_2 (by decide) (by omega) (fun c1 => ?_) (fun c1 => ?_)
  · refine z_bipush F dX5_edition_12 (by decide) ?_
    exact z_iret F hr dX5_edition_14 (by omega) ⟨(-2), ne, rfl, rfl, (by omega), h22⟩
  · refine z_iload_n F 1 dX5_edition_5 rfl ?_
    refine z_sipush F dX5_edition_6 (by decide) ?_
    refine z_icmp_le F 15 dX5_edition_9 (by decide) (by omega) (fun c2 => ?_) (fun c2 => ?_)
    · refine z_aload_n F 0 dX5_edition_15 rfl ?_
      refine z_iload_n F 1 dX5_edition_16 rfl ?_
      refine z_put F (ws' := [oX5 x d y u sa ru ar sq ge e0 wa fe tk cp xc, oX0 d sc db dq dt wc, aB K db nb zb, aB K dq 32768 zq, aI K dt 64 zt, oX3 y yk yn yc ya yd yl lp re wp lw, aI K yk np zk, aI K yn np zn, aI K yc np zc, aI K ya na za, aL K yd np fd, aI K yl 64 zl, oX4 u um ud, aZ K um 64 zm, aL K ud 64 fu, aI K xc np zx]) 0 8 iX5 tyX5 tyX5_ok nmX5 rfl rfl (by decide) t1_117 rfl rfl rfl rfl (Nat.le_of_ble_eq_true rfl) dX5_edition_17 rfl ?_
      refine z_iconst F dX5_edition_20 ?_
      exact z_iret F hr dX5_edition_21 (by omega) ⟨1, e0, rfl, rfl, (by omega), (by omega)⟩
    · refine z_bipush F dX5_edition_12 (by decide) ?_
      exact z_iret F hr dX5_edition_14 (by omega) ⟨(-2), ne, rfl, rfl, (by omega), h22⟩
set_option maxHeartbeats 4000000 in
set_option maxRecDepth 20000 in
theorem k_X5_aboutRunning (l : Launch) (D : va_G) (K : KI) (x : Nat) (sa : Int) (ru : Int) (ar : Int) (sq : Int) (ge : Int) (ne : Int) (wa : Int) (fe : Int) (tk : Int) (cp : Int) (xc : Nat) (u : Nat) (d : Nat) (sc : Int) (db : Nat) (dq : Nat) (dt : Nat) (wc : Int) (nb : Nat) (zb : Nat → Int) (zq : Nat → Int) (zt : Nat → Int) (y : Nat) (yk : Nat) (yn : Nat) (yc : Nat) (ya : Nat) (yd : Nat) (yl : Nat) (lp : Int) (re : Int) (wp : Int) (lw : Int) (np : Nat) (na : Nat) (zk : Nat → Int) (zn : Nat → Int) (zc : Nat → Int) (za : Nat → Int) (fd : Nat → Int64) (zl : Nat → Int) (um : Nat) (ud : Nat) (zm : Nat → Int) (fu : Nat → Int64) (zx : Nat → Int) (w0 : Int) (h0 : 4 ≤ sc ∧ sc ≤ 40 ∧ (nb : Int) = 512 * sc) (h1 : 1 ≤ sa ∧ 2 * sa ≤ sc - 2 ∧ (np : Int) = 16 * sa ∧ (na : Int) = 6 * np) (h2 : 0 ≤ wc ∧ wc ≤ 64) (h3 : rng (-128) 127 zb) (h4 : rng (-128) 127 zq) (h5 : rng 0 (sc-1) zt) (h6 : 0 ≤ re ∧ re ≤ np) (h7 : -1 ≤ lp ∧ lp ≤ np - 1 ∧ 0 ≤ wp ∧ wp ≤ re ∧ -1 ≤ lw ∧ lw ≤ np - 1) (h8 : rng 0 3 zk) (h9 : rng (-128) 127 zn) (h10 : nmOk zk zn) (h11 : rng 0 6 zc) (h12 : rng (-128) 127 za) (h13 : akOk zc za) (h14 : rng (-1) (np-1) zl) (h15 : 0 ≤ ar ∧ ar ≤ 1) (h16 : -1 ≤ tk ∧ tk ≤ re ∧ (tk = -1 ∨ (0 ≤ cp ∧ cp ≤ tk))) (h17 : rng 0 (np-1) zx) (h18 : 0 ≤ fe ∧ fe ≤ 304) (h19 : ru = 0 ∨ ru = 1) (h20 : ru = 0 → tk = -1) (h21 : 0 ≤ wa ∧ wa ≤ 304) (h22 : 1 ≤ ne ∧ ne ≤ 200) (h23 : rng 0 1 zm) (h24 : -2147483648 ≤ w0 ∧ w0 ≤ 2147483647) : Ct lw_T l yX5_aboutRunning cX5_aboutRunning 2 (some .int) { frames := 1, cells := 0, slots := 0, locals := 22 } 0 0 D cls5 (TY K) [.ref x, .int (iZ w0)] [oX5 x d y u sa ru ar sq ge ne wa fe tk cp xc, oX0 d sc db dq dt wc, aB K db nb zb, aB K dq 32768 zq, aI K dt 64 zt, oX3 y yk yn yc ya yd yl lp re wp lw, aI K yk np zk, aI K yn np zn, aI K yc np zc, aI K ya na za, aL K yd np fd, aI K yl 64 zl, oX4 u um ud, aZ K um 64 zm, aL K ud 64 fu, aI K xc np zx] (fun v wo => ∃ (r : Int), v = some (.int (iZ r)) ∧ wo = [oX5 x d y u sa ru ar sq ge ne wa fe tk cp xc, oX0 d sc db dq dt wc, aB K db nb zb, aB K dq 32768 zq, aI K dt 64 zt, oX3 y yk yn yc ya yd yl lp re wp lw, aI K yk np zk, aI K yn np zn, aI K yc np zc, aI K ya na za, aL K yd np fd, aI K yl 64 zl, oX4 u um ud, aZ K um 64 zm, aL K ud 64 fu, aI K xc np zx]) := by
  refine ct_of (own := RX5) (lv := [(0, .ref x), (1, .int (iZ w0))]) (by decide) rfl (Nat.le_of_ble_eq_true rfl) rfl (fun C F hr hnm hzl => ?_)
  subst hzl
  refine z_iload_n F 1 dX5_aboutRunning_0 rfl ?_
  by_cases c1 : w0 = 1
  · rw [c1]; refine z_tableIn F 1 44 dX5_aboutRunning_1 (by decide) (by decide) (by decide) rfl (by decide) ?_
    refine z_aload_n F 0 dX5_aboutRunning_44 rfl ?_
    refine z_get F 0 1 iX5 rfl rfl (by decide) t1_110 rfl dX5_aboutRunning_45 ?_
    refine z_callV F lw_good (k_X3_end _ D K y yk yn yc ya yd yl lp re wp lw) t2_23 t1_4 t2_20 t2_21 (q := (RX3, TX3, 10)) t2_22 ⟨rfl, rfl⟩ ndX3_end ⟨Nat.le_of_ble_eq_true rfl, Nat.le_of_ble_eq_true rfl⟩ 0 rfl rfl (rest := []) rfl (Nat.le_of_ble_eq_true rfl) dX5_aboutRunning_48 ⟨(show 0 + 0 ≤ 0 by omega), (show 0 + 0 ≤ 0 by omega)⟩ (wr := [oX5 x d y u sa ru ar sq ge ne wa fe tk cp xc, oX0 d sc db dq dt wc, aB K db nb zb, aB K dq 32768 zq, aI K dt 64 zt, aI K yk np zk, aI K yn np zn, aI K yc np zc, aI K ya na za, aL K yd np fd, aI K yl 64 zl, oX4 u um ud, aZ K um 64 zm, aL K ud 64 fu, aI K xc np zx]) ([5] : List Nat) ([0, 1, 2, 3, 4, 6, 7, 8, 9, 10, 11, 12, 13, 14, 15] : List Nat) rfl rfl rfl rfl (by decide) (fun v wo hp => ?_)
    obtain ⟨rfl, rfl⟩ := hp
    refine z_re F (ws' := [oX5 x d y u sa ru ar sq ge ne wa fe tk cp xc, oX0 d sc db dq dt wc, aB K db nb zb, aB K dq 32768 zq, aI K dt 64 zt, oX3 y yk yn yc ya yd yl lp re wp lw, aI K yk np zk, aI K yn np zn, aI K yc np zc, aI K ya na za, aL K yd np fd, aI K yl 64 zl, oX4 u um ud, aZ K um 64 zm, aL K ud 64 fu, aI K xc np zx]) (st' := [.int (iZ re)]) ([0, 1, 2, 3, 4, 15, 5, 6, 7, 8, 9, 10, 11, 12, 13, 14] : List Nat) rfl rfl rfl ?_
    exact z_iret F hr dX5_aboutRunning_51 (by omega) ⟨re, rfl, rfl⟩
  by_cases c2 : w0 = 2
  · rw [c2]; refine z_tableIn F 2 52 dX5_aboutRunning_1 (by decide) (by decide) (by decide) rfl (by decide) ?_
    refine z_aload_n F 0 dX5_aboutRunning_52 rfl ?_
    refine z_get F 0 0 iX5 rfl rfl (by decide) t1_109 rfl dX5_aboutRunning_53 ?_
    refine z_callV F lw_good (k_X0_waiting _ D K d sc db dq dt wc) t2_223 t1_3 t2_220 t2_221 (q := (RX0, TX0, 5)) t2_222 ⟨rfl, rfl⟩ ndX0_waiting ⟨Nat.le_of_ble_eq_true rfl, Nat.le_of_ble_eq_true rfl⟩ 0 rfl rfl (rest := []) rfl (Nat.le_of_ble_eq_true rfl) dX5_aboutRunning_56 ⟨(show 0 + 0 ≤ 0 by omega), (show 0 + 0 ≤ 0 by omega)⟩ (wr := [oX5 x d y u sa ru ar sq ge ne wa fe tk cp xc, aB K db nb zb, aB K dq 32768 zq, aI K dt 64 zt, oX3 y yk yn yc ya yd yl lp re wp lw, aI K yk np zk, aI K yn np zn, aI K yc np zc, aI K ya na za, aL K yd np fd, aI K yl 64 zl, oX4 u um ud, aZ K um 64 zm, aL K ud 64 fu, aI K xc np zx]) ([1] : List Nat) ([0, 2, 3, 4, 5, 6, 7, 8, 9, 10, 11, 12, 13, 14, 15] : List Nat) rfl rfl rfl rfl (by decide) (fun v wo hp => ?_)
    obtain ⟨rfl, rfl⟩ := hp
    refine z_re F (ws' := [oX5 x d y u sa ru ar sq ge ne wa fe tk cp xc, oX0 d sc db dq dt wc, aB K db nb zb, aB K dq 32768 zq, aI K dt 64 zt, oX3 y yk yn yc ya yd yl lp re wp lw, aI K yk np zk, aI K yn np zn, aI K yc np zc, aI K ya na za, aL K yd np fd, aI K yl 64 zl, oX4 u um ud, aZ K um 64 zm, aL K ud 64 fu, aI K xc np zx]) (st' := [.int (iZ wc)]) ([0, 15, 1, 2, 3, 4, 5, 6, 7, 8, 9, 10, 11, 12, 13, 14] : List Nat) rfl rfl rfl ?_
    exact z_iret F hr dX5_aboutRunning_59 (by omega) ⟨wc, rfl, rfl⟩
  by_cases c3 : w0 = 3
  · rw [c3]; refine z_tableIn F 3 60 dX5_aboutRunning_1 (by decide) (by decide) (by decide) rfl (by decide) ?_
    refine z_aload_n F 0 dX5_aboutRunning_60 rfl ?_
    refine z_get F 0 2 iX5 rfl rfl (by decide) t1_111 rfl dX5_aboutRunning_61 ?_
    refine z_callV F lw_good (k_X4_count _ D K u um ud zm h23) t2_227 t1_5 t2_224 t2_225 (q := (RX4, TX4, 2)) t2_226 ⟨rfl, rfl⟩ ndX4_count ⟨Nat.le_of_ble_eq_true rfl, Nat.le_of_ble_eq_true rfl⟩ 0 rfl rfl (rest := []) rfl (Nat.le_of_ble_eq_true rfl) dX5_aboutRunning_64 ⟨(show 0 + 0 ≤ 0 by omega), (show 0 + 0 ≤ 0 by omega)⟩ (wr := [oX5 x d y u sa ru ar sq ge ne wa fe tk cp xc, oX0 d sc db dq dt wc, aB K db nb zb, aB K dq 32768 zq, aI K dt 64 zt, oX3 y yk yn yc ya yd yl lp re wp lw, aI K yk np zk, aI K yn np zn, aI K yc np zc, aI K ya na za, aL K yd np fd, aI K yl 64 zl, aL K ud 64 fu, aI K xc np zx]) ([12, 13] : List Nat) ([0, 1, 2, 3, 4, 5, 6, 7, 8, 9, 10, 11, 14, 15] : List Nat) rfl rfl rfl rfl (by decide) (fun v wo hp => ?_)
    obtain ⟨r_4, rfl, rfl, f5⟩ := hp
    refine z_re F (ws' := [oX5 x d y u sa ru ar sq ge ne wa fe tk cp xc, oX0 d sc db dq dt wc, aB K db nb zb, aB K dq 32768 zq, aI K dt 64 zt, oX3 y yk yn yc ya yd yl lp re wp lw, aI K yk np zk, aI K yn np zn, aI K yc np zc, aI K ya na za, aL K yd np fd, aI K yl 64 zl, oX4 u um ud, aZ K um 64 zm, aL K ud 64 fu, aI K xc np zx]) (st' := [.int (iZ r_4)]) ([0, 1, 2, 3, 4, 5, 6, 7, 8, 9, 10, 11, 14, 15, 12, 13] : List Nat) rfl rfl rfl ?_
    exact z_iret F hr dX5_aboutRunning_67 (by omega) ⟨r_4, rfl, rfl⟩
  by_cases c6 : w0 = 4
  · rw [c6]; refine z_tableIn F 4 68 dX5_aboutRunning_1 (by decide) (by decide) (by decide) rfl (by decide) ?_
    refine z_aload_n F 0 dX5_aboutRunning_68 rfl ?_
    refine z_get F 0 1 iX5 rfl rfl (by decide) t1_110 rfl dX5_aboutRunning_69 ?_
    refine z_callV F lw_good (k_X3_lockHolder _ D K y yk yn yc ya yd yl lp re wp lw np zk zn (by omega) (by omega) h8 h9) t2_199 t1_4 t2_196 t2_197 (q := (RX3, TX3, 10)) t2_198 ⟨rfl, rfl⟩ ndX3_lockHolder ⟨Nat.le_of_ble_eq_true rfl, Nat.le_of_ble_eq_true rfl⟩ 0 rfl rfl (rest := []) rfl (Nat.le_of_ble_eq_true rfl) dX5_aboutRunning_72 ⟨(show 0 + 0 ≤ 0 by omega), (show 0 + 0 ≤ 0 by omega)⟩ (wr := [oX5 x d y u sa ru ar sq ge ne wa fe tk cp xc, oX0 d sc db dq dt wc, aB K db nb zb, aB K dq 32768 zq, aI K dt 64 zt, aI K yc np zc, aI K ya na za, aL K yd np fd, aI K yl 64 zl, oX4 u um ud, aZ K um 64 zm, aL K ud 64 fu, aI K xc np zx]) ([5, 6, 7] : List Nat) ([0, 1, 2, 3, 4, 8, 9, 10, 11, 12, 13, 14, 15] : List Nat) rfl rfl rfl rfl (by decide) (fun v wo hp => ?_)
    obtain ⟨r_7, rfl, rfl, f8⟩ := hp
    refine z_re F (ws' := [oX5 x d y u sa ru ar sq ge ne wa fe tk cp xc, oX0 d sc db dq dt wc, aB K db nb zb, aB K dq 32768 zq, aI K dt 64 zt, oX3 y yk yn yc ya yd yl lp re wp lw, aI K yk np zk, aI K yn np zn, aI K yc np zc, aI K ya na za, aL K yd np fd, aI K yl 64 zl, oX4 u um ud, aZ K um 64 zm, aL K ud 64 fu, aI K xc np zx]) (st' := [.int (iZ r_7)]) ([0, 1, 2, 3, 4, 13, 14, 15, 5, 6, 7, 8, 9, 10, 11, 12] : List Nat) rfl rfl rfl ?_
    exact z_iret F hr dX5_aboutRunning_75 (by omega) ⟨r_7, rfl, rfl⟩
  by_cases c9 : w0 = 5
  · rw [c9]; refine z_tableIn F 5 76 dX5_aboutRunning_1 (by decide) (by decide) (by decide) rfl (by decide) ?_
    refine z_aload_n F 0 dX5_aboutRunning_76 rfl ?_
    refine z_get F 0 5 iX5 rfl rfl (by decide) t1_114 rfl dX5_aboutRunning_77 ?_
    exact z_iret F hr dX5_aboutRunning_80 (by omega) ⟨ar, rfl, rfl⟩
  by_cases c10 : w0 = 6
  · rw [c10]; refine z_tableIn F 6 81 dX5_aboutRunning_1 (by decide) (by decide) (by decide) rfl (by decide) ?_
    refine z_aload_n F 0 dX5_aboutRunning_81 rfl ?_
    refine z_get F 0 6 iX5 rfl rfl (by decide) t1_115 rfl dX5_aboutRunning_82 ?_
    exact z_iret F hr dX5_aboutRunning_85 (by omega) ⟨sq, rfl, rfl⟩
  by_cases c11 : w0 = 7
  · rw [c11]; refine z_tableIn F 7 86 dX5_aboutRunning_1 (by decide) (by decide) (by decide) rfl (by decide) ?_
    refine z_aload_n F 0 dX5_aboutRunning_86 rfl ?_
    refine z_get F 0 11 iX5 rfl rfl (by decide) t1_120 rfl dX5_aboutRunning_87 ?_
    exact z_iret F hr dX5_aboutRunning_90 (by omega) ⟨tk, rfl, rfl⟩
  refine z_tableOut F 91 dX5_aboutRunning_1 (by omega) (by omega) (by decide) ?_
  refine z_iconst F dX5_aboutRunning_91 ?_
  exact z_iret F hr dX5_aboutRunning_92 (by omega) ⟨(-1), rfl, rfl⟩
set_option maxHeartbeats 4000000 in
set_option maxRecDepth 20000 in
theorem k_X5_about (l : Launch) (D : va_G) (K : KI) (x : Nat) (sa : Int) (ru : Int) (ar : Int) (sq : Int) (ge : Int) (ne : Int) (wa : Int) (fe : Int) (tk : Int) (cp : Int) (xc : Nat) (u : Nat) (d : Nat) (sc : Int) (db : Nat) (dq : Nat) (dt : Nat) (wc : Int) (nb : Nat) (zb : Nat → Int) (zq : Nat → Int) (zt : Nat → Int) (y : Nat) (yk : Nat) (yn : Nat) (yc : Nat) (ya : Nat) (yd : Nat) (yl : Nat) (lp : Int) (re : Int) (wp : Int) (lw : Int) (np : Nat) (na : Nat) (zk : Nat → Int) (zn : Nat → Int) (zc : Nat → Int) (za : Nat → Int) (fd : Nat → Int64) (zl : Nat → Int) (um : Nat) (ud : Nat) (zm : Nat → Int) (fu : Nat → Int64) (zx : Nat → Int) (w0 : Int) (h0 : 4 ≤ sc ∧ sc ≤ 40 ∧ (nb : Int) = 512 * sc) (h1 : 1 ≤ sa ∧ 2 * sa ≤ sc - 2 ∧ (np : Int) = 16 * sa ∧ (na : Int) = 6 * np) (h2 : 0 ≤ wc ∧ wc ≤ 64) (h3 : rng (-128) 127 zb) (h4 : rng (-128) 127 zq) (h5 : rng 0 (sc-1) zt) (h6 : 0 ≤ re ∧ re ≤ np) (h7 : -1 ≤ lp ∧ lp ≤ np - 1 ∧ 0 ≤ wp ∧ wp ≤ re ∧ -1 ≤ lw ∧ lw ≤ np - 1) (h8 : rng 0 3 zk) (h9 : rng (-128) 127 zn) (h10 : nmOk zk zn) (h11 : rng 0 6 zc) (h12 : rng (-128) 127 za) (h13 : akOk zc za) (h14 : rng (-1) (np-1) zl) (h15 : 0 ≤ ar ∧ ar ≤ 1) (h16 : -1 ≤ tk ∧ tk ≤ re ∧ (tk = -1 ∨ (0 ≤ cp ∧ cp ≤ tk))) (h17 : rng 0 (np-1) zx) (h18 : 0 ≤ fe ∧ fe ≤ 304) (h19 : ru = 0 ∨ ru = 1) (h20 : ru = 0 → tk = -1) (h21 : 0 ≤ wa ∧ wa ≤ 304) (h22 : 1 ≤ ne ∧ ne ≤ 200) (h23 : rng 0 1 zm) (h24 : -2147483648 ≤ w0 ∧ w0 ≤ 2147483647) : Ct lw_T l yX5_about cX5_about 2 (some .int) { frames := 2, cells := 0, slots := 0, locals := 43 } 0 0 D cls5 (TY K) [.ref x, .int (iZ w0)] [oX5 x d y u sa ru ar sq ge ne wa fe tk cp xc, oX0 d sc db dq dt wc, aB K db nb zb, aB K dq 32768 zq, aI K dt 64 zt, oX3 y yk yn yc ya yd yl lp re wp lw, aI K yk np zk, aI K yn np zn, aI K yc np zc, aI K ya na za, aL K yd np fd, aI K yl 64 zl, oX4 u um ud, aZ K um 64 zm, aL K ud 64 fu, aI K xc np zx] (fun v wo => ∃ (r : Int), v = some (.int (iZ r)) ∧ wo = [oX5 x d y u sa ru ar sq ge ne wa fe tk cp xc, oX0 d sc db dq dt wc, aB K db nb zb, aB K dq 32768 zq, aI K dt 64 zt, oX3 y yk yn yc ya yd yl lp re wp lw, aI K yk np zk, aI K yn np zn, aI K yc np zc, aI K ya na za, aL K yd np fd, aI K yl 64 zl, oX4 u um ud, aZ K um 64 zm, aL K ud 64 fu, aI K xc np zx] ∧ (ru = 0 → (w0 = 0 → r = 0) ∧ (w0 = 8 → r = np) ∧ (¬ w0 = 0 ∧ ¬ w0 = 8 → r = -1))) := by
  refine ct_of (own := RX5) (lv := [(0, .ref x), (1, .int (iZ w0))]) (by decide) rfl (Nat.le_of_ble_eq_true rfl) rfl (fun C F hr hnm hzl => ?_)
  subst hzl
  refine z_iload_n F 1 dX5_about_0 rfl ?_
  refine z_if_ne F 17 dX5_about_1 (by decide) (by omega) (fun c1 => ?_) (fun c1 => ?_)
  · refine z_iload_n F 1 dX5_about_17 rfl ?_
    refine z_bipush F dX5_about_18 (by decide) ?_
    refine z_icmp_ne F 31 dX5_about_20 (by decide) (by omega) (fun c2 => ?_) (fun c2 => ?_)
    · refine z_aload_n F 0 dX5_about_31 rfl ?_
      refine z_get F 0 4 iX5 rfl rfl (by decide) t1_113 rfl dX5_about_32 ?_
      refine z_if_eq F 46 dX5_about_35 (by decide) (by omega) (fun c3 => ?_) (fun c3 => ?_)
      · refine z_iconst F dX5_about_46 ?_
        exact z_iret F hr dX5_about_47 (by omega) ⟨(-1), rfl, rfl, (by omega)⟩
      · refine z_aload_n F 0 dX5_about_38 rfl ?_
        refine z_iload_n F 1 dX5_about_39 rfl ?_
        refine z_callV F lw_good (k_X5_aboutRunning _ D K x sa ru ar sq ge ne wa fe tk cp xc u d sc db dq dt wc nb zb zq zt y yk yn yc ya yd yl lp re wp lw np na zk zn zc za fd zl um ud zm fu zx w0 h0 h1 h2 h3 h4 h5 h6 h7 h8 h9 h10 h11 h12 h13 h14 h15 h16 h17 h18 h19 h20 h21 h22 h23 h24) t2_219 t1_1 t2_216 t2_218 (q := (RX5, TX5, 14)) ts_18 ⟨rfl, rfl⟩ ndX5_aboutRunning ⟨Nat.le_of_ble_eq_true rfl, Nat.le_of_ble_eq_true rfl⟩ 0 rfl rfl (rest := []) rfl (Nat.le_of_ble_eq_true rfl) dX5_about_40 ⟨(show 0 + 0 ≤ 0 by omega), (show 0 + 0 ≤ 0 by omega)⟩ (wr := []) ([0, 1, 2, 3, 4, 5, 6, 7, 8, 9, 10, 11, 12, 13, 14, 15] : List Nat) ([] : List Nat) rfl rfl rfl rfl (by decide) (fun v wo hp => ?_)
        obtain ⟨r_4, rfl, rfl⟩ := hp
        refine z_re F (ws' := [oX5 x d y u sa ru ar sq ge ne wa fe tk cp xc, oX0 d sc db dq dt wc, aB K db nb zb, aB K dq 32768 zq, aI K dt 64 zt, oX3 y yk yn yc ya yd yl lp re wp lw, aI K yk np zk, aI K yn np zn, aI K yc np zc, aI K ya na za, aL K yd np fd, aI K yl 64 zl, oX4 u um ud, aZ K um 64 zm, aL K ud 64 fu, aI K xc np zx]) (st' := [.int (iZ r_4)]) ([0, 1, 2, 3, 4, 5, 6, 7, 8, 9, 10, 11, 12, 13, 14, 15] : List Nat) rfl rfl rfl ?_
        refine z_goto F 47 dX5_about_43 (by decide) ?_
        exact z_iret F hr dX5_about_47 (by omega) ⟨r_4, rfl, rfl, (by omega)⟩
    · refine z_aload_n F 0 dX5_about_23 rfl ?_
      refine z_get F 0 1 iX5 rfl rfl (by decide) t1_110 rfl dX5_about_24 ?_
      refine z_callV F lw_good (k_X3_places _ D K y yk yn yc ya yd yl lp re wp lw np zk (by omega)) t2_215 t1_4 t2_212 t2_213 (q := (RX3, TX3, 10)) t2_214 ⟨rfl, rfl⟩ ndX3_places ⟨Nat.le_of_ble_eq_true rfl, Nat.le_of_ble_eq_true rfl⟩ 0 rfl rfl (rest := []) rfl (Nat.le_of_ble_eq_true rfl) dX5_about_27 ⟨(show 0 + 0 ≤ 0 by omega), (show 0 + 0 ≤ 0 by omega)⟩ (wr := [oX5 x d y u sa ru ar sq ge ne wa fe tk cp xc, oX0 d sc db dq dt wc, aB K db nb zb, aB K dq 32768 zq, aI K dt 64 zt, aI K yn np zn, aI K yc np zc, aI K ya na za, aL K yd np fd, aI K yl 64 zl, oX4 u um ud, aZ K um 64 zm, aL K ud 64 fu, aI K xc np zx]) ([5, 6] : List Nat) ([0, 1, 2, 3, 4, 7, 8, 9, 10, 11, 12, 13, 14, 15] : List Nat) rfl rfl rfl rfl (by decide) (fun v wo hp => ?_)
      obtain ⟨rfl, rfl⟩ := hp
      refine z_re F (ws' := [oX5 x d y u sa ru ar sq ge ne wa fe tk cp xc, oX0 d sc db dq dt wc, aB K db nb zb, aB K dq 32768 zq, aI K dt 64 zt, oX3 y yk yn yc ya yd yl lp re wp lw, aI K yk np zk, aI K yn np zn, aI K yc np zc, aI K ya na za, aL K yd np fd, aI K yl 64 zl, oX4 u um ud, aZ K um 64 zm, aL K ud 64 fu, aI K xc np zx]) (st' := [.int (iZ (np : Int))]) ([0, 1, 2, 3, 4, 14, 15, 5, 6, 7, 8, 9, 10, 11, 12, 13] : List Nat) rfl rfl rfl ?_
      exact z_iret F hr dX5_about_30 (by omega) ⟨(np : Int), rfl, rfl, (by omega)⟩
  · refine z_aload_n F 0 dX5_about_4 rfl ?_
    refine z_get F 0 4 iX5 rfl rfl (by decide) t1_113 rfl dX5_about_5 ?_
    refine z_if_eq F 15 dX5_about_8 (by decide) (by omega) (fun c5 => ?_) (fun c5 => ?_)
    · refine z_iconst F dX5_about_15 ?_
      exact z_iret F hr dX5_about_16 (by omega) ⟨0, rfl, rfl, (by omega)⟩
    · refine z_iconst F dX5_about_11 ?_
      refine z_goto F 16 dX5_about_12 (by decide) ?_
      exact z_iret F hr dX5_about_16 (by omega) ⟨1, rfl, rfl, (by omega)⟩
set_option maxHeartbeats 4000000 in
set_option maxRecDepth 20000 in
theorem k_X5_start (l : Launch) (D : va_G) (K : KI) (x : Nat) (sa : Int) (ru : Int) (ar : Int) (sq : Int) (ge : Int) (ne : Int) (wa : Int) (fe : Int) (tk : Int) (cp : Int) (xc : Nat) (u : Nat) (d : Nat) (sc : Int) (db : Nat) (dq : Nat) (dt : Nat) (wc : Int) (nb : Nat) (zb : Nat → Int) (zq : Nat → Int) (zt : Nat → Int) (y : Nat) (yk : Nat) (yn : Nat) (yc : Nat) (ya : Nat) (yd : Nat) (yl : Nat) (lp : Int) (re : Int) (wp : Int) (lw : Int) (np : Nat) (na : Nat) (zk : Nat → Int) (zn : Nat → Int) (zc : Nat → Int) (za : Nat → Int) (fd : Nat → Int64) (zl : Nat → Int) (um : Nat) (ud : Nat) (zm : Nat → Int) (fu : Nat → Int64) (zx : Nat → Int) (h0 : 4 ≤ sc ∧ sc ≤ 40 ∧ (nb : Int) = 512 * sc) (h1 : 1 ≤ sa ∧ 2 * sa ≤ sc - 2 ∧ (np : Int) = 16 * sa ∧ (na : Int) = 6 * np) (h2 : 0 ≤ wc ∧ wc ≤ 64) (h3 : rng (-128) 127 zb) (h4 : rng (-128) 127 zq) (h5 : rng 0 (sc-1) zt) (h6 : 0 ≤ re ∧ re ≤ np) (h7 : -1 ≤ lp ∧ lp ≤ np - 1 ∧ 0 ≤ wp ∧ wp ≤ re ∧ -1 ≤ lw ∧ lw ≤ np - 1) (h8 : rng 0 3 zk) (h9 : rng (-128) 127 zn) (h10 : nmOk zk zn) (h11 : rng 0 6 zc) (h12 : rng (-128) 127 za) (h13 : akOk zc za) (h14 : rng (-1) (np-1) zl) (h15 : 0 ≤ ar ∧ ar ≤ 1) (h16 : -1 ≤ tk ∧ tk ≤ re ∧ (tk = -1 ∨ (0 ≤ cp ∧ cp ≤ tk))) (h17 : rng 0 (np-1) zx) (h18 : 0 ≤ fe ∧ fe ≤ 304) (h19 : ru = 0 ∨ ru = 1) (h20 : ru = 0 → tk = -1) (h21 : 0 ≤ wa ∧ wa ≤ 304) (h22 : 1 ≤ ne ∧ ne ≤ 200) (h23 : rng 0 1 zm) : Ct lw_T l yX5_start cX5_start 2 (some .int) { frames := 5, cells := 0, slots := 0, locals := 131 } 0 0 D cls5 (TY K) [.ref x] [oX5 x d y u sa ru ar sq ge ne wa fe tk cp xc, oX0 d sc db dq dt wc, aB K db nb zb, aB K dq 32768 zq, aI K dt 64 zt, oX3 y yk yn yc ya yd yl lp re wp lw, aI K yk np zk, aI K yn np zn, aI K yc np zc, aI K ya na za, aL K yd np fd, aI K yl 64 zl, oX4 u um ud, aZ K um 64 zm, aL K ud 64 fu, aI K xc np zx] (fun v wo => ∃ (r : Int), ∃ (ru2 : Int), ∃ (ar2 : Int), ∃ (sq2 : Int), ∃ (ge2 : Int), ∃ (wa2 : Int), ∃ (fe2 : Int), ∃ (wc2 : Int), ∃ (zb2 : Nat → Int), ∃ (zq2 : Nat → Int), ∃ (zt2 : Nat → Int), ∃ (lp2 : Int), ∃ (re2 : Int), ∃ (wp2 : Int), ∃ (lw2 : Int), ∃ (zk2 : Nat → Int), ∃ (zn2 : Nat → Int), ∃ (zc2 : Nat → Int), ∃ (za2 : Nat → Int), ∃ (fd2 : Nat → Int64), ∃ (zl2 : Nat → Int), v = some (.int (iZ r)) ∧ wo = [oX5 x d y u sa ru2 ar2 sq2 ge2 ne wa2 fe2 tk cp xc, oX0 d sc db dq dt wc2, aB K db nb zb2, aB K dq 32768 zq2, aI K dt 64 zt2, oX3 y yk yn yc ya yd yl lp2 re2 wp2 lw2, aI K yk np zk2, aI K yn np zn2, aI K yc np zc2, aI K ya na za2, aL K yd np fd2, aI K yl 64 zl2, oX4 u um ud, aZ K um 64 zm, aL K ud 64 fu, aI K xc np zx] ∧ (-3 ≤ r ∧ r ≤ 304) ∧ ((∀ j, zb j = 0) → ru = 0 → r = 0) ∧ (0 ≤ ar2 ∧ ar2 ≤ 1) ∧ (0 ≤ fe2 ∧ fe2 ≤ 304 ∧ 0 ≤ wa2 ∧ wa2 ≤ 304) ∧ (ru2 = 0 ∨ ru2 = 1) ∧ (tk = -1 ∨ (re2 = re ∧ ru2 = ru)) ∧ (0 ≤ wc2 ∧ wc2 ≤ 64) ∧ (rng (-128) 127 zb2) ∧ (rng (-128) 127 zq2) ∧ (rng 0 (sc-1) zt2) ∧ (0 ≤ re2 ∧ re2 ≤ np) ∧ (-1 ≤ lp2 ∧ lp2 ≤ np - 1 ∧ 0 ≤ wp2 ∧ wp2 ≤ re2 ∧ -1 ≤ lw2 ∧ lw2 ≤ np - 1) ∧ (rng 0 3 zk2) ∧ (rng (-128) 127 zn2) ∧ (nmOk zk2 zn2) ∧ (rng 0 6 zc2) ∧ (rng (-128) 127 za2) ∧ (akOk zc2 za2) ∧ (rng (-1) (np-1) zl2)) := by
  refine ct_of (own := RX5) (lv := [(0, .ref x)]) (by decide) rfl (Nat.le_of_ble_eq_true rfl) rfl (fun C F hr hnm hzl => ?_)
  subst hzl
  refine z_aload_n F 0 dX5_start_0 rfl ?_
  refine z_get F 0 4 iX5 rfl rfl (by decide) t1_113 rfl dX5_start_1 ?_
  refine z_if_eq F 10 dX5_start_4 (by decide) (by omega) (fun c1 => ?_) (fun c1 => ?_)
  · refine z_aload_n F 0 dX5_start_10 rfl ?_
    refine z_get F 0 0 iX5 rfl rfl (by decide) t1_109 rfl dX5_start_11 ?_
    refine z_get F 1 1 iX0 rfl rfl (by decide) t1_39 rfl dX5_start_14 ?_
    refine z_callS F lw_good (k_X1_counting _ D K db nb zb (by omega)) t1_158 t1_7 t1_156 t1_157 ⟨rfl, rfl⟩ ndX1_counting ⟨Nat.le_of_ble_eq_true rfl, Nat.le_of_ble_eq_true rfl⟩ (rest := []) rfl (Nat.le_of_ble_eq_true rfl) dX5_start_17 ⟨(show 0 + 0 ≤ 0 by omega), (show 0 + 0 ≤ 0 by omega)⟩ (wr := [oX5 x d y u sa ru ar sq ge ne wa fe tk cp xc, oX0 d sc db dq dt wc, aB K dq 32768 zq, aI K dt 64 zt, oX3 y yk yn yc ya yd yl lp re wp lw, aI K yk np zk, aI K yn np zn, aI K yc np zc, aI K ya na za, aL K yd np fd, aI K yl 64 zl, oX4 u um ud, aZ K um 64 zm, aL K ud 64 fu, aI K xc np zx]) ([2] : List Nat) ([0, 1, 3, 4, 5, 6, 7, 8, 9, 10, 11, 12, 13, 14, 15] : List Nat) rfl rfl rfl rfl (by decide) (fun v wo hp => ?_)
    obtain ⟨r_2, rfl, rfl, f3, f4⟩ := hp
    refine z_re F (ws' := [oX5 x d y u sa ru ar sq ge ne wa fe tk cp xc, oX0 d sc db dq dt wc, aB K db nb zb, aB K dq 32768 zq, aI K dt 64 zt, oX3 y yk yn yc ya yd yl lp re wp lw, aI K yk np zk, aI K yn np zn, aI K yc np zc, aI K ya na za, aL K yd np fd, aI K yl 64 zl, oX4 u um ud, aZ K um 64 zm, aL K ud 64 fu, aI K xc np zx]) (st' := [.int (iZ r_2)]) ([0, 1, 15, 2, 3, 4, 5, 6, 7, 8, 9, 10, 11, 12, 13, 14] : List Nat) rfl rfl rfl ?_
    have hc1 := f3; have hcz := f4
    refine z_istore_n F (lv' := [(1, .int (iZ r_2)), (0, .ref x)]) dX5_start_20 (by decide) rfl ?_
    have lp63 : ∀ (h1 : Int) (arv : Int) (sqv : Int) (wcv : Int) (zbv : Nat → Int) (zqv : Nat → Int) (ztv : Nat → Int) (lpv : Int) (rev : Int) (wpv : Int) (lwv : Int) (zkv : Nat → Int) (znv : Nat → Int) (zcv : Nat → Int) (zav : Nat → Int) (fdv : Nat → Int64) (zlv : Nat → Int), (0 ≤ arv ∧ arv ≤ 1) → ((∀ j, zb j = 0) → rev = 0 ∧ wpv = 0) → (0 ≤ wcv ∧ wcv ≤ 64) → (rng (-128) 127 zbv) → (rng (-128) 127 zqv) → (rng 0 (sc-1) ztv) → (0 ≤ rev ∧ rev ≤ np) → (-1 ≤ lpv ∧ lpv ≤ np - 1 ∧ 0 ≤ wpv ∧ wpv ≤ rev ∧ -1 ≤ lwv ∧ lwv ≤ np - 1) → (rng 0 3 zkv) → (rng (-128) 127 znv) → (nmOk zkv znv) → (rng 0 6 zcv) → (rng (-128) 127 zav) → (akOk zcv zav) → (rng (-1) (np-1) zlv) → Go C { frames := 5, cells := 0, slots := 0, locals := 131 } D cls5 2 0 0 [oX5 x d y u sa ru arv sqv ge ne wa fe tk cp xc, oX0 d sc db dq dt wcv, aB K db nb zbv, aB K dq 32768 zqv, aI K dt 64 ztv, oX3 y yk yn yc ya yd yl lpv rev wpv lwv, aI K yk np zkv, aI K yn np znv, aI K yc np zcv, aI K ya na zav, aL K yd np fdv, aI K yl 64 zlv, oX4 u um ud, aZ K um 64 zm, aL K ud 64 fu, aI K xc np zx] 63 [(1, .int (iZ h1)), (0, .ref x)] [] := by
      intro h1 arv sqv wcv zbv zqv ztv lpv rev wpv lwv zkv znv zcv zav fdv zlv g63_0 g63_1 g63_2 g63_3 g63_4 g63_5 g63_6 g63_7 g63_8 g63_9 g63_10 g63_11 g63_12 g63_13 g63_14
      refine z_aload_n F 1 dX5_start_63 rfl ?_
      refine z_aload_n F 1 dX5_start_64 rfl ?_
      refine z_get F 0 8 iX5 rfl rfl (by decide) t1_117 rfl dX5_start_65 ?_
      refine z_put F (ws' := [oX5 x d y u sa ru arv sqv ne ne wa fe tk cp xc, oX0 d sc db dq dt wcv, aB K db nb zbv, aB K dq 32768 zqv, aI K dt 64 ztv, oX3 y yk yn yc ya yd yl lpv rev wpv lwv, aI K yk np zkv, aI K yn np znv, aI K yc np zcv, aI K ya na zav, aL K yd np fdv, aI K yl 64 zlv, oX4 u um ud, aZ K um 64 zm, aL K ud 64 fu, aI K xc np zx]) 0 7 iX5 tyX5 tyX5_ok nmX5 rfl rfl (by decide) t1_116 rfl rfl rfl rfl (Nat.le_of_ble_eq_true rfl) dX5_start_68 rfl ?_
      refine z_aload_n F 1 dX5_start_71 rfl ?_
      refine z_aload_n F 1 dX5_start_72 rfl ?_
      refine z_get F 0 1 iX5 rfl rfl (by decide) t1_110 rfl dX5_start_73 ?_
      refine z_callV F lw_good (k_X3_wrongCount _ D K y yk yn yc ya yd yl lpv rev wpv lwv) t2_19 t1_4 t2_16 t2_17 (q := (RX3, TX3, 10)) t2_18 ⟨rfl, rfl⟩ ndX3_wrongCount ⟨Nat.le_of_ble_eq_true rfl, Nat.le_of_ble_eq_true rfl⟩ 0 rfl rfl (rest := [.ref x]) rfl (Nat.le_of_ble_eq_true rfl) dX5_start_76 ⟨(show 0 + 0 ≤ 0 by omega), (show 0 + 0 ≤ 0 by omega)⟩ (wr := [oX5 x d y u sa ru arv sqv ne ne wa fe tk cp xc, oX0 d sc db dq dt wcv, aB K db nb zbv, aB K dq 32768 zqv, aI K dt 64 ztv, aI K yk np zkv, aI K yn np znv, aI K yc np zcv, aI K ya na zav, aL K yd np fdv, aI K yl 64 zlv, oX4 u um ud, aZ K um 64 zm, aL K ud 64 fu, aI K xc np zx]) ([5] : List Nat) ([0, 1, 2, 3, 4, 6, 7, 8, 9, 10, 11, 12, 13, 14, 15] : List Nat) rfl rfl rfl rfl (by decide) (fun v wo hp => ?_)
      obtain ⟨rfl, rfl⟩ := hp
      refine z_re F (ws' := [oX5 x d y u sa ru arv sqv ne ne wa fe tk cp xc, oX0 d sc db dq dt wcv, aB K db nb zbv, aB K dq 32768 zqv, aI K dt 64 ztv, oX3 y yk yn yc ya yd yl lpv rev wpv lwv, aI K yk np zkv, aI K yn np znv, aI K yc np zcv, aI K ya na zav, aL K yd np fdv, aI K yl 64 zlv, oX4 u um ud, aZ K um 64 zm, aL K ud 64 fu, aI K xc np zx]) (st' := [.int (iZ wpv), .ref x]) ([0, 1, 2, 3, 4, 15, 5, 6, 7, 8, 9, 10, 11, 12, 13, 14] : List Nat) rfl rfl rfl ?_
      refine z_put F (ws' := [oX5 x d y u sa ru arv sqv ne ne wpv fe tk cp xc, oX0 d sc db dq dt wcv, aB K db nb zbv, aB K dq 32768 zqv, aI K dt 64 ztv, oX3 y yk yn yc ya yd yl lpv rev wpv lwv, aI K yk np zkv, aI K yn np znv, aI K yc np zcv, aI K ya na zav, aL K yd np fdv, aI K yl 64 zlv, oX4 u um ud, aZ K um 64 zm, aL K ud 64 fu, aI K xc np zx]) 0 9 iX5 tyX5 tyX5_ok nmX5 rfl rfl (by decide) t1_118 rfl rfl rfl rfl (Nat.le_of_ble_eq_true rfl) dX5_start_79 rfl ?_
      refine z_aload_n F 1 dX5_start_82 rfl ?_
      refine z_aload_n F 1 dX5_start_83 rfl ?_
      refine z_get F 0 1 iX5 rfl rfl (by decide) t1_110 rfl dX5_start_84 ?_
      refine z_callV F lw_good (k_X3_end _ D K y yk yn yc ya yd yl lpv rev wpv lwv) t2_23 t1_4 t2_20 t2_21 (q := (RX3, TX3, 10)) t2_22 ⟨rfl, rfl⟩ ndX3_end ⟨Nat.le_of_ble_eq_true rfl, Nat.le_of_ble_eq_true rfl⟩ 0 rfl rfl (rest := [.ref x]) rfl (Nat.le_of_ble_eq_true rfl) dX5_start_87 ⟨(show 0 + 0 ≤ 0 by omega), (show 0 + 0 ≤ 0 by omega)⟩ (wr := [oX5 x d y u sa ru arv sqv ne ne wpv fe tk cp xc, oX0 d sc db dq dt wcv, aB K db nb zbv, aB K dq 32768 zqv, aI K dt 64 ztv, aI K yk np zkv, aI K yn np znv, aI K yc np zcv, aI K ya na zav, aL K yd np fdv, aI K yl 64 zlv, oX4 u um ud, aZ K um 64 zm, aL K ud 64 fu, aI K xc np zx]) ([5] : List Nat) ([0, 1, 2, 3, 4, 6, 7, 8, 9, 10, 11, 12, 13, 14, 15] : List Nat) rfl rfl rfl rfl (by decide) (fun v wo hp => ?_)
      obtain ⟨rfl, rfl⟩ := hp
      refine z_re F (ws' := [oX5 x d y u sa ru arv sqv ne ne wpv fe tk cp xc, oX0 d sc db dq dt wcv, aB K db nb zbv, aB K dq 32768 zqv, aI K dt 64 ztv, oX3 y yk yn yc ya yd yl lpv rev wpv lwv, aI K yk np zkv, aI K yn np znv, aI K yc np zcv, aI K ya na zav, aL K yd np fdv, aI K yl 64 zlv, oX4 u um ud, aZ K um 64 zm, aL K ud 64 fu, aI K xc np zx]) (st' := [.int (iZ rev), .ref x]) ([0, 1, 2, 3, 4, 15, 5, 6, 7, 8, 9, 10, 11, 12, 13, 14] : List Nat) rfl rfl rfl ?_
      refine z_put F (ws' := [oX5 x d y u sa ru arv sqv ne ne wpv rev tk cp xc, oX0 d sc db dq dt wcv, aB K db nb zbv, aB K dq 32768 zqv, aI K dt 64 ztv, oX3 y yk yn yc ya yd yl lpv rev wpv lwv, aI K yk np zkv, aI K yn np znv, aI K yc np zcv, aI K ya na zav, aL K yd np fdv, aI K yl 64 zlv, oX4 u um ud, aZ K um 64 zm, aL K ud 64 fu, aI K xc np zx]) 0 10 iX5 tyX5 tyX5_ok nmX5 rfl rfl (by decide) t1_119 rfl rfl rfl rfl (Nat.le_of_ble_eq_true rfl) dX5_start_90 rfl ?_
      refine z_aload_n F 1 dX5_start_93 rfl ?_
      refine z_callV F lw_good (k_X5_changeHeads _ D K x y u sa ru arv sqv ne ne wpv rev tk cp xc d sc db dq dt wcv nb zbv zqv ztv h0 g63_3 g63_4 g63_5 g63_2 g63_0) t2_27 t1_1 t2_24 t2_26 (q := (RX5, TX5, 14)) ts_9 ⟨rfl, rfl⟩ ndX5_changeHeads ⟨Nat.le_of_ble_eq_true rfl, Nat.le_of_ble_eq_true rfl⟩ 0 rfl rfl (rest := []) rfl (Nat.le_of_ble_eq_true rfl) dX5_start_94 ⟨(show 0 + 0 ≤ 0 by omega), (show 0 + 0 ≤ 0 by omega)⟩ (wr := [oX3 y yk yn yc ya yd yl lpv rev wpv lwv, aI K yk np zkv, aI K yn np znv, aI K yc np zcv, aI K ya na zav, aL K yd np fdv, aI K yl 64 zlv, oX4 u um ud, aZ K um 64 zm, aL K ud 64 fu, aI K xc np zx]) ([0, 1, 2, 3, 4] : List Nat) ([5, 6, 7, 8, 9, 10, 11, 12, 13, 14, 15] : List Nat) rfl rfl rfl rfl (by decide) (fun v wo hp => ?_)
      obtain ⟨sq2_5, wc2_6, zb2_7, zq2_8, zt2_9, rfl, rfl, f10, f11, f12, f13⟩ := hp
      refine z_re F (ws' := [oX5 x d y u sa ru arv sq2_5 ne ne wpv rev tk cp xc, oX0 d sc db dq dt wc2_6, aB K db nb zb2_7, aB K dq 32768 zq2_8, aI K dt 64 zt2_9, oX3 y yk yn yc ya yd yl lpv rev wpv lwv, aI K yk np zkv, aI K yn np znv, aI K yc np zcv, aI K ya na zav, aL K yd np fdv, aI K yl 64 zlv, oX4 u um ud, aZ K um 64 zm, aL K ud 64 fu, aI K xc np zx]) (st' := []) ([11, 12, 13, 14, 15, 0, 1, 2, 3, 4, 5, 6, 7, 8, 9, 10] : List Nat) rfl rfl rfl ?_
      refine z_aload_n F 1 dX5_start_97 rfl ?_
      refine z_iconst F dX5_start_98 ?_
      refine z_put F (ws' := [oX5 x d y u sa 1 arv sq2_5 ne ne wpv rev tk cp xc, oX0 d sc db dq dt wc2_6, aB K db nb zb2_7, aB K dq 32768 zq2_8, aI K dt 64 zt2_9, oX3 y yk yn yc ya yd yl lpv rev wpv lwv, aI K yk np zkv, aI K yn np znv, aI K yc np zcv, aI K ya na zav, aL K yd np fdv, aI K yl 64 zlv, oX4 u um ud, aZ K um 64 zm, aL K ud 64 fu, aI K xc np zx]) 0 4 iX5 tyX5 tyX5_ok nmX5 rfl rfl (by decide) t1_113 rfl rfl (by decide) (by decide) (Nat.le_of_ble_eq_true rfl) dX5_start_99 rfl ?_
      refine z_aload_n F 1 dX5_start_102 rfl ?_
      refine z_get F 0 1 iX5 rfl rfl (by decide) t1_110 rfl dX5_start_103 ?_
      refine z_callV F lw_good (k_X3_end _ D K y yk yn yc ya yd yl lpv rev wpv lwv) t2_23 t1_4 t2_20 t2_21 (q := (RX3, TX3, 10)) t2_22 ⟨rfl, rfl⟩ ndX3_end ⟨Nat.le_of_ble_eq_true rfl, Nat.le_of_ble_eq_true rfl⟩ 0 rfl rfl (rest := []) rfl (Nat.le_of_ble_eq_true rfl) dX5_start_106 ⟨(show 0 + 0 ≤ 0 by omega), (show 0 + 0 ≤ 0 by omega)⟩ (wr := [oX5 x d y u sa 1 arv sq2_5 ne ne wpv rev tk cp xc, oX0 d sc db dq dt wc2_6, aB K db nb zb2_7, aB K dq 32768 zq2_8, aI K dt 64 zt2_9, aI K yk np zkv, aI K yn np znv, aI K yc np zcv, aI K ya na zav, aL K yd np fdv, aI K yl 64 zlv, oX4 u um ud, aZ K um 64 zm, aL K ud 64 fu, aI K xc np zx]) ([5] : List Nat) ([0, 1, 2, 3, 4, 6, 7, 8, 9, 10, 11, 12, 13, 14, 15] : List Nat) rfl rfl rfl rfl (by decide) (fun v wo hp => ?_)
      obtain ⟨rfl, rfl⟩ := hp
      refine z_re F (ws' := [oX5 x d y u sa 1 arv sq2_5 ne ne wpv rev tk cp xc, oX0 d sc db dq dt wc2_6, aB K db nb zb2_7, aB K dq 32768 zq2_8, aI K dt 64 zt2_9, oX3 y yk yn yc ya yd yl lpv rev wpv lwv, aI K yk np zkv, aI K yn np znv, aI K yc np zcv, aI K ya na zav, aL K yd np fdv, aI K yl 64 zlv, oX4 u um ud, aZ K um 64 zm, aL K ud 64 fu, aI K xc np zx]) (st' := [.int (iZ rev)]) ([0, 1, 2, 3, 4, 15, 5, 6, 7, 8, 9, 10, 11, 12, 13, 14] : List Nat) rfl rfl rfl ?_
      refine z_aload_n F 1 dX5_start_109 rfl ?_
      refine z_get F 0 1 iX5 rfl rfl (by decide) t1_110 rfl dX5_start_110 ?_
      refine z_callV F lw_good (k_X3_wrongCount _ D K y yk yn yc ya yd yl lpv rev wpv lwv) t2_19 t1_4 t2_16 t2_17 (q := (RX3, TX3, 10)) t2_18 ⟨rfl, rfl⟩ ndX3_wrongCount ⟨Nat.le_of_ble_eq_true rfl, Nat.le_of_ble_eq_true rfl⟩ 0 rfl rfl (rest := [.int (iZ rev)]) rfl (Nat.le_of_ble_eq_true rfl) dX5_start_113 ⟨(show 0 + 0 ≤ 0 by omega), (show 0 + 0 ≤ 0 by omega)⟩ (wr := [oX5 x d y u sa 1 arv sq2_5 ne ne wpv rev tk cp xc, oX0 d sc db dq dt wc2_6, aB K db nb zb2_7, aB K dq 32768 zq2_8, aI K dt 64 zt2_9, aI K yk np zkv, aI K yn np znv, aI K yc np zcv, aI K ya na zav, aL K yd np fdv, aI K yl 64 zlv, oX4 u um ud, aZ K um 64 zm, aL K ud 64 fu, aI K xc np zx]) ([5] : List Nat) ([0, 1, 2, 3, 4, 6, 7, 8, 9, 10, 11, 12, 13, 14, 15] : List Nat) rfl rfl rfl rfl (by decide) (fun v wo hp => ?_)
      obtain ⟨rfl, rfl⟩ := hp
      refine z_re F (ws' := [oX5 x d y u sa 1 arv sq2_5 ne ne wpv rev tk cp xc, oX0 d sc db dq dt wc2_6, aB K db nb zb2_7, aB K dq 32768 zq2_8, aI K dt 64 zt2_9, oX3 y yk yn yc ya yd yl lpv rev wpv lwv, aI K yk np zkv, aI K yn np znv, aI K yc np zcv, aI K ya na zav, aL K yd np fdv, aI K yl 64 zlv, oX4 u um ud, aZ K um 64 zm, aL K ud 64 fu, aI K xc np zx]) (st' := [.int (iZ wpv), .int (iZ rev)]) ([0, 1, 2, 3, 4, 15, 5, 6, 7, 8, 9, 10, 11, 12, 13, 14] : List Nat) rfl rfl rfl ?_
      refine z_isub F dX5_start_116 ?_
      exact z_iret F hr dX5_start_117 (by omega) ⟨(rev - wpv), 1, arv, sq2_5, ne, wpv, rev, wc2_6, zb2_7, zq2_8, zt2_9, lpv, rev, wpv, lwv, zkv, znv, zcv, zav, fdv, zlv, rfl, rfl, (by omega), (by first | (intro hz q; exact absurd q (by omega)) | (intro hz q; have z1 := g63_1 hz; omega) | (intro hz q; exact absurd (hcz hz) (by omega))), g63_0, (by omega), (by omega), (by omega), f10, f11, f12, f13, g63_6, g63_7, g63_8, g63_9, g63_10, g63_11, g63_12, g63_13, g63_14⟩
    refine z_iload_n F 0 dX5_start_21 rfl ?_
    refine z_iconst F dX5_start_22 ?_
    refine z_icmp_eq F 46 dX5_start_23 (by decide) (by omega) (fun c14 => ?_) (fun c14 => ?_)
    · refine z_iload_n F 0 dX5_start_46 rfl ?_
      refine z_iconst F dX5_start_47 ?_
      refine z_icmp_ne F 58 dX5_start_48 (by decide) (by omega) (fun c15 => ?_) (fun c15 => ?_)
      · refine z_aload_n F 1 dX5_start_58 rfl ?_
        refine z_iload_n F 0 dX5_start_59 rfl ?_
        refine z_callV F lw_good (k_X5_beginBy _ D K x sa ru ar sq ge ne wa fe tk cp xc u d sc db dq dt wc nb zb y yk yn yc ya yd yl lp re wp lw np na zk zn zc za fd zl r_2 h0 h1 h3 (by omega) (by omega) h8 h9 h10 h11 h12 h13 h14) t1_231 t1_1 t1_228 t1_230 (q := (RX5, TX5, 14)) ts_7 ⟨rfl, rfl⟩ ndX5_beginBy ⟨Nat.le_of_ble_eq_true rfl, Nat.le_of_ble_eq_true rfl⟩ 0 rfl rfl (rest := []) rfl (Nat.le_of_ble_eq_true rfl) dX5_start_60 ⟨(show 0 + 0 ≤ 0 by omega), (show 0 + 0 ≤ 0 by omega)⟩ (wr := [aB K dq 32768 zq, aI K dt 64 zt, oX4 u um ud, aZ K um 64 zm, aL K ud 64 fu, aI K xc np zx]) ([0, 1, 2, 5, 6, 7, 8, 9, 10, 11] : List Nat) ([3, 4, 12, 13, 14, 15] : List Nat) rfl rfl rfl rfl (by decide) (fun v wo hp => ?_)
        obtain ⟨sq2_16, ar2_17, lp2_18, re2_19, wp2_20, lw2_21, zk2_22, zn2_23, zc2_24, za2_25, fd2_26, zl2_27, rfl, rfl, f28, f29, f30, f31, f32, f33, f34, f35, f36, f37⟩ := hp
        refine z_re F (ws' := [oX5 x d y u sa ru ar2_17 sq2_16 ge ne wa fe tk cp xc, oX0 d sc db dq dt wc, aB K db nb zb, aB K dq 32768 zq, aI K dt 64 zt, oX3 y yk yn yc ya yd yl lp2_18 re2_19 wp2_20 lw2_21, aI K yk np zk2_22, aI K yn np zn2_23, aI K yc np zc2_24, aI K ya na za2_25, aL K yd np fd2_26, aI K yl 64 zl2_27, oX4 u um ud, aZ K um 64 zm, aL K ud 64 fu, aI K xc np zx]) (st' := []) ([6, 7, 8, 0, 1, 9, 10, 11, 12, 13, 14, 15, 2, 3, 4, 5] : List Nat) rfl rfl rfl ?_
        exact lp63 r_2 ar2_17 sq2_16 wc zb zq zt lp2_18 re2_19 wp2_20 lw2_21 zk2_22 zn2_23 zc2_24 za2_25 fd2_26 zl2_27 f28 (by first | exact fun _ => ⟨rfl, rfl⟩ | exact fun hz => absurd (hcz hz) (by omega)) h2 h3 h4 h5 f29 f30 f31 f32 f33 f34 f35 f36 f37
      · refine z_aload_n F 1 dX5_start_51 rfl ?_
        refine z_callV F lw_good (k_X5_beginEmpty _ D K x sa ru ar sq ge ne wa fe tk cp xc u d sc db dq dt wc nb zb zq zt y yk yn yc ya yd yl lp re wp lw np zk zn zl h0 (by omega) h2 h3 h4 h5 h14 h10 h8) t1_191 t1_1 t1_188 t1_190 (q := (RX5, TX5, 14)) ts_1 ⟨rfl, rfl⟩ ndX5_beginEmpty ⟨Nat.le_of_ble_eq_true rfl, Nat.le_of_ble_eq_true rfl⟩ 0 rfl rfl (rest := []) rfl (Nat.le_of_ble_eq_true rfl) dX5_start_52 ⟨(show 0 + 0 ≤ 0 by omega), (show 0 + 0 ≤ 0 by omega)⟩ (wr := [aI K yc np zc, aI K ya na za, aL K yd np fd, oX4 u um ud, aZ K um 64 zm, aL K ud 64 fu, aI K xc np zx]) ([0, 1, 2, 3, 4, 5, 6, 7, 11] : List Nat) ([8, 9, 10, 12, 13, 14, 15] : List Nat) rfl rfl rfl rfl (by decide) (fun v wo hp => ?_)
        obtain ⟨wc2_38, zb2_39, zq2_40, zt2_41, lp2_42, lw2_43, zl2_44, rfl, rfl, f45, f46, f47, f48, f49, f50⟩ := hp
        refine z_re F (ws' := [oX5 x d y u sa ru 0 0 ge ne wa fe tk cp xc, oX0 d sc db dq dt wc2_38, aB K db nb zb2_39, aB K dq 32768 zq2_40, aI K dt 64 zt2_41, oX3 y yk yn yc ya yd yl lp2_42 0 0 lw2_43, aI K yk np zk, aI K yn np zn, aI K yc np zc, aI K ya na za, aL K yd np fd, aI K yl 64 zl2_44, oX4 u um ud, aZ K um 64 zm, aL K ud 64 fu, aI K xc np zx]) (st' := []) ([7, 8, 9, 10, 11, 12, 13, 14, 0, 1, 2, 15, 3, 4, 5, 6] : List Nat) rfl rfl rfl ?_
        refine z_goto F 63 dX5_start_55 (by decide) ?_
        exact lp63 r_2 0 0 wc2_38 zb2_39 zq2_40 zt2_41 lp2_42 0 0 lw2_43 zk zn zc za fd zl2_44 (by omega) (by first | exact fun _ => ⟨rfl, rfl⟩ | exact fun hz => absurd (hcz hz) (by omega)) f45 f46 f47 f48 (by omega) (by omega) h8 h9 h10 h11 h12 h13 f50
    · refine z_aload_n F 1 dX5_start_26 rfl ?_
      refine z_aload_n F 1 dX5_start_27 rfl ?_
      refine z_get F 0 0 iX5 rfl rfl (by decide) t1_109 rfl dX5_start_28 ?_
      refine z_get F 1 1 iX0 rfl rfl (by decide) t1_39 rfl dX5_start_31 ?_
      refine z_iload_n F 0 dX5_start_34 rfl ?_
      refine z_callS F lw_good (k_X1_editionAt _ D K db nb zb r_2 (by omega)) t1_183 t1_7 t1_181 t1_182 ⟨rfl, rfl⟩ ndX1_editionAt ⟨Nat.le_of_ble_eq_true rfl, Nat.le_of_ble_eq_true rfl⟩ (rest := [.ref x]) rfl (Nat.le_of_ble_eq_true rfl) dX5_start_35 ⟨(show 0 + 0 ≤ 0 by omega), (show 0 + 0 ≤ 0 by omega)⟩ (wr := [oX5 x d y u sa ru ar sq ge ne wa fe tk cp xc, oX0 d sc db dq dt wc, aB K dq 32768 zq, aI K dt 64 zt, oX3 y yk yn yc ya yd yl lp re wp lw, aI K yk np zk, aI K yn np zn, aI K yc np zc, aI K ya na za, aL K yd np fd, aI K yl 64 zl, oX4 u um ud, aZ K um 64 zm, aL K ud 64 fu, aI K xc np zx]) ([2] : List Nat) ([0, 1, 3, 4, 5, 6, 7, 8, 9, 10, 11, 12, 13, 14, 15] : List Nat) rfl rfl rfl rfl (by decide) (fun v wo hp => ?_)
      obtain ⟨r_51, rfl, rfl⟩ := hp
      refine z_re F (ws' := [oX5 x d y u sa ru ar sq ge ne wa fe tk cp xc, oX0 d sc db dq dt wc, aB K db nb zb, aB K dq 32768 zq, aI K dt 64 zt, oX3 y yk yn yc ya yd yl lp re wp lw, aI K yk np zk, aI K yn np zn, aI K yc np zc, aI K ya na za, aL K yd np fd, aI K yl 64 zl, oX4 u um ud, aZ K um 64 zm, aL K ud 64 fu, aI K xc np zx]) (st' := [.long r_51, .ref x]) ([0, 1, 15, 2, 3, 4, 5, 6, 7, 8, 9, 10, 11, 12, 13, 14] : List Nat) rfl rfl rfl ?_
      refine z_callV F lw_good (k_X5_fitsEdition _ D K x d y u sa ru ar sq ge ne wa fe tk cp xc r_51) t1_187 t1_1 t1_184 t1_186 (q := (RX5, TX5, 14)) ts_0 ⟨rfl, rfl⟩ ndX5_fitsEdition ⟨Nat.le_of_ble_eq_true rfl, Nat.le_of_ble_eq_true rfl⟩ 0 rfl rfl (rest := []) rfl (Nat.le_of_ble_eq_true rfl) dX5_start_38 ⟨(show 0 + 0 ≤ 0 by omega), (show 0 + 0 ≤ 0 by omega)⟩ (wr := [oX0 d sc db dq dt wc, aB K db nb zb, aB K dq 32768 zq, aI K dt 64 zt, oX3 y yk yn yc ya yd yl lp re wp lw, aI K yk np zk, aI K yn np zn, aI K yc np zc, aI K ya na za, aL K yd np fd, aI K yl 64 zl, oX4 u um ud, aZ K um 64 zm, aL K ud 64 fu, aI K xc np zx]) ([0] : List Nat) ([1, 2, 3, 4, 5, 6, 7, 8, 9, 10, 11, 12, 13, 14, 15] : List Nat) rfl rfl rfl rfl (by decide) (fun v wo hp => ?_)
      obtain ⟨r_52, rfl, rfl, f53⟩ := hp
      refine z_re F (ws' := [oX5 x d y u sa ru ar sq ge ne wa fe tk cp xc, oX0 d sc db dq dt wc, aB K db nb zb, aB K dq 32768 zq, aI K dt 64 zt, oX3 y yk yn yc ya yd yl lp re wp lw, aI K yk np zk, aI K yn np zn, aI K yc np zc, aI K ya na za, aL K yd np fd, aI K yl 64 zl, oX4 u um ud, aZ K um 64 zm, aL K ud 64 fu, aI K xc np zx]) (st' := [.int (iZ r_52)]) ([15, 0, 1, 2, 3, 4, 5, 6, 7, 8, 9, 10, 11, 12, 13, 14] : List Nat) rfl rfl rfl ?_
      refine z_if_ne F 46 dX5_start_41 (by decide) (by omega) (fun c54 => ?_) (fun c54 => ?_)
      · refine z_iload_n F 0 dX5_start_46 rfl ?_
        refine z_iconst F dX5_start_47 ?_
        refine z_icmp_ne F 58 dX5_start_48 (by decide) (by omega) (fun c55 => ?_) (fun c55 => ?_)
        · refine z_aload_n F 1 dX5_start_58 rfl ?_
          refine z_iload_n F 0 dX5_start_59 rfl ?_
          refine z_callV F lw_good (k_X5_beginBy _ D K x sa ru ar sq ge ne wa fe tk cp xc u d sc db dq dt wc nb zb y yk yn yc ya yd yl lp re wp lw np na zk zn zc za fd zl r_2 h0 h1 h3 (by omega) (by omega) h8 h9 h10 h11 h12 h13 h14) t1_231 t1_1 t1_228 t1_230 (q := (RX5, TX5, 14)) ts_7 ⟨rfl, rfl⟩ ndX5_beginBy ⟨Nat.le_of_ble_eq_true rfl, Nat.le_of_ble_eq_true rfl⟩ 0 rfl rfl (rest := []) rfl (Nat.le_of_ble_eq_true rfl) dX5_start_60 ⟨(show 0 + 0 ≤ 0 by omega), (show 0 + 0 ≤ 0 by omega)⟩ (wr := [aB K dq 32768 zq, aI K dt 64 zt, oX4 u um ud, aZ K um 64 zm, aL K ud 64 fu, aI K xc np zx]) ([0, 1, 2, 5, 6, 7, 8, 9, 10, 11] : List Nat) ([3, 4, 12, 13, 14, 15] : List Nat) rfl rfl rfl rfl (by decide) (fun v wo hp => ?_)
          obtain ⟨sq2_56, ar2_57, lp2_58, re2_59, wp2_60, lw2_61, zk2_62, zn2_63, zc2_64, za2_65, fd2_66, zl2_67, rfl, rfl, f68, f69, f70, f71, f72, f73, f74, f75, f76, f77⟩ := hp
          refine z_re F (ws' := [oX5 x d y u sa ru ar2_57 sq2_56 ge ne wa fe tk cp xc, oX0 d sc db dq dt wc, aB K db nb zb, aB K dq 32768 zq, aI K dt 64 zt, oX3 y yk yn yc ya yd yl lp2_58 re2_59 wp2_60 lw2_61, aI K yk np zk2_62, aI K yn np zn2_63, aI K yc np zc2_64, aI K ya na za2_65, aL K yd np fd2_66, aI K yl 64 zl2_67, oX4 u um ud, aZ K um 64 zm, aL K ud 64 fu, aI K xc np zx]) (st' := []) ([6, 7, 8, 0, 1, 9, 10, 11, 12, 13, 14, 15, 2, 3, 4, 5] : List Nat) rfl rfl rfl ?_
          exact lp63 r_2 ar2_57 sq2_56 wc zb zq zt lp2_58 re2_59 wp2_60 lw2_61 zk2_62 zn2_63 zc2_64 za2_65 fd2_66 zl2_67 f68 (by first | exact fun _ => ⟨rfl, rfl⟩ | exact fun hz => absurd (hcz hz) (by omega)) h2 h3 h4 h5 f69 f70 f71 f72 f73 f74 f75 f76 f77
        · refine z_aload_n F 1 dX5_start_51 rfl ?_
          refine z_callV F lw_good (k_X5_beginEmpty _ D K x sa ru ar sq ge ne wa fe tk cp xc u d sc db dq dt wc nb zb zq zt y yk yn yc ya yd yl lp re wp lw np zk zn zl h0 (by omega) h2 h3 h4 h5 h14 h10 h8) t1_191 t1_1 t1_188 t1_190 (q := (RX5, TX5, 14)) ts_1 ⟨rfl, rfl⟩ ndX5_beginEmpty ⟨Nat.le_of_ble_eq_true rfl, Nat.le_of_ble_eq_true rfl⟩ 0 rfl rfl (rest := []) rfl (Nat.le_of_ble_eq_true rfl) dX5_start_52 ⟨(show 0 + 0 ≤ 0 by omega), (show 0 + 0 ≤ 0 by omega)⟩ (wr := [aI K yc np zc, aI K ya na za, aL K yd np fd, oX4 u um ud, aZ K um 64 zm, aL K ud 64 fu, aI K xc np zx]) ([0, 1, 2, 3, 4, 5, 6, 7, 11] : List Nat) ([8, 9, 10, 12, 13, 14, 15] : List Nat) rfl rfl rfl rfl (by decide) (fun v wo hp => ?_)
          obtain ⟨wc2_78, zb2_79, zq2_80, zt2_81, lp2_82, lw2_83, zl2_84, rfl, rfl, f85, f86, f87, f88, f89, f90⟩ := hp
          refine z_re F (ws' := [oX5 x d y u sa ru 0 0 ge ne wa fe tk cp xc, oX0 d sc db dq dt wc2_78, aB K db nb zb2_79, aB K dq 32768 zq2_80, aI K dt 64 zt2_81, oX3 y yk yn yc ya yd yl lp2_82 0 0 lw2_83, aI K yk np zk, aI K yn np zn, aI K yc np zc, aI K ya na za, aL K yd np fd, aI K yl 64 zl2_84, oX4 u um ud, aZ K um 64 zm, aL K ud 64 fu, aI K xc np zx]) (st' := []) ([7, 8, 9, 10, 11, 12, 13, 14, 0, 1, 2, 15, 3, 4, 5, 6] : List Nat) rfl rfl rfl ?_
          refine z_goto F 63 dX5_start_55 (by decide) ?_
          exact lp63 r_2 0 0 wc2_78 zb2_79 zq2_80 zt2_81 lp2_82 0 0 lw2_83 zk zn zc za fd zl2_84 (by omega) (by first | exact fun _ => ⟨rfl, rfl⟩ | exact fun hz => absurd (hcz hz) (by omega)) f85 f86 f87 f88 (by omega) (by omega) h8 h9 h10 h11 h12 h13 f90
      · refine z_iconst F dX5_start_44 ?_
        exact z_iret F hr dX5_start_45 (by omega) ⟨(-1), ru, ar, sq, ge, wa, fe, wc, zb, zq, zt, lp, re, wp, lw, zk, zn, zc, za, fd, zl, rfl, rfl, (by omega), (by first | (intro hz q; exact absurd q (by omega)) | (intro hz q; have z1 := g63_1 hz; omega) | (intro hz q; exact absurd (hcz hz) (by omega))), h15, (by omega), h19, (by omega), h2, h3, h4, h5, h6, h7, h8, h9, h10, h11, h12, h13, h14⟩
  · refine z_bipush F dX5_start_7 (by decide) ?_
    exact z_iret F hr dX5_start_9 (by omega) ⟨(-3), ru, ar, sq, ge, wa, fe, wc, zb, zq, zt, lp, re, wp, lw, zk, zn, zc, za, fd, zl, rfl, rfl, (by omega), (by first | (intro hz q; exact absurd q (by omega)) | (intro hz q; have z1 := g63_1 hz; omega) | (intro hz q; exact absurd (hcz hz) (by omega))), h15, (by omega), h19, (by omega), h2, h3, h4, h5, h6, h7, h8, h9, h10, h11, h12, h13, h14⟩
end
