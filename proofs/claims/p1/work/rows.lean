section
-- ===== PART A: goes FIRST, ahead of the names: the tables' words, and 'selects' of the private methods out of them =====
/-- a private method of a class that the tables say can be made, by its rows of tables_1 -/
def lw_okq (q : MethodName × Nat) : Prop := (q.1.cls ≠ "java/lang/invoke/MethodHandle" ∧ q.1.cls ≠ "java/lang/invoke/VarHandle") ∧ Cond.instantiable q.1.cls q.2 ∈ tables_1 ∧ Cond.privateMethod q.1 ∈ tables_1 ∧ Cond.instanceMethod q.1 ∈ tables_1
theorem lw_p0 : lw_okq (⟨"BuildDisk", "fitsEdition", "(J)Z"⟩, 14) := ⟨⟨by decide +kernel, by decide +kernel⟩, List.mem_of_getElem? (i := 16) (by decide +kernel), List.mem_of_getElem? (i := 185) (by decide +kernel), List.mem_of_getElem? (i := 186) (by decide +kernel)⟩
theorem lw_p1 : lw_okq (⟨"BuildDisk", "beginEmpty", "()V"⟩, 14) := ⟨⟨by decide +kernel, by decide +kernel⟩, List.mem_of_getElem? (i := 16) (by decide +kernel), List.mem_of_getElem? (i := 189) (by decide +kernel), List.mem_of_getElem? (i := 190) (by decide +kernel)⟩
theorem lw_p2 : lw_okq (⟨"BuildDisk$Table", "index", "()V"⟩, 10) := ⟨⟨by decide +kernel, by decide +kernel⟩, List.mem_of_getElem? (i := 58) (by decide +kernel), List.mem_of_getElem? (i := 197) (by decide +kernel), List.mem_of_getElem? (i := 198) (by decide +kernel)⟩
theorem lw_p3 : lw_okq (⟨"BuildDisk$Table", "indexPlace", "(I)V"⟩, 10) := ⟨⟨by decide +kernel, by decide +kernel⟩, List.mem_of_getElem? (i := 58) (by decide +kernel), List.mem_of_getElem? (i := 201) (by decide +kernel), List.mem_of_getElem? (i := 202) (by decide +kernel)⟩
theorem lw_p4 : lw_okq (⟨"BuildDisk", "clearArea", "(I)V"⟩, 14) := ⟨⟨by decide +kernel, by decide +kernel⟩, List.mem_of_getElem? (i := 16) (by decide +kernel), List.mem_of_getElem? (i := 205) (by decide +kernel), List.mem_of_getElem? (i := 206) (by decide +kernel)⟩
theorem lw_p5 : lw_okq (⟨"BuildDisk", "firstSector", "(I)I"⟩, 14) := ⟨⟨by decide +kernel, by decide +kernel⟩, List.mem_of_getElem? (i := 16) (by decide +kernel), List.mem_of_getElem? (i := 209) (by decide +kernel), List.mem_of_getElem? (i := 210) (by decide +kernel)⟩
theorem lw_p6 : lw_okq (⟨"BuildDisk$Disk", "addTarget", "(I)I"⟩, 5) := ⟨⟨by decide +kernel, by decide +kernel⟩, List.mem_of_getElem? (i := 30) (by decide +kernel), List.mem_of_getElem? (i := 225) (by decide +kernel), List.mem_of_getElem? (i := 226) (by decide +kernel)⟩
theorem lw_p7 : lw_okq (⟨"BuildDisk", "beginBy", "(I)V"⟩, 14) := ⟨⟨by decide +kernel, by decide +kernel⟩, List.mem_of_getElem? (i := 16) (by decide +kernel), List.mem_of_getElem? (i := 229) (by decide +kernel), List.mem_of_getElem? (i := 230) (by decide +kernel)⟩
theorem lw_p8 : lw_okq (⟨"BuildDisk$Table", "readRow", "([BII)V"⟩, 10) := ⟨⟨by decide +kernel, by decide +kernel⟩, List.mem_of_getElem? (i := 58) (by decide +kernel), List.mem_of_getElem? (i := 252) (by decide +kernel), List.mem_of_getElem? (i := 253) (by decide +kernel)⟩
theorem lw_p9 : lw_okq (⟨"BuildDisk", "changeHeads", "()V"⟩, 14) := ⟨⟨by decide +kernel, by decide +kernel⟩, List.mem_of_getElem? (i := 16) (by decide +kernel), List.mem_of_getElem? (i := 265) (by decide +kernel), List.mem_of_getElem? (i := 266) (by decide +kernel)⟩
theorem lw_p10 : lw_okq (⟨"BuildDisk", "keep", "(IIJ)I"⟩, 14) := ⟨⟨by decide +kernel, by decide +kernel⟩, List.mem_of_getElem? (i := 16) (by decide +kernel), List.mem_of_getElem? (i := 287) (by decide +kernel), List.mem_of_getElem? (i := 288) (by decide +kernel)⟩
theorem lw_p11 : lw_okq (⟨"BuildDisk", "writeRow", "(III)V"⟩, 14) := ⟨⟨by decide +kernel, by decide +kernel⟩, List.mem_of_getElem? (i := 16) (by decide +kernel), List.mem_of_getElem? (i := 299) (by decide +kernel), List.mem_of_getElem? (i := 300) (by decide +kernel)⟩
theorem lw_p12 : lw_okq (⟨"BuildDisk$Disk", "latestWrite", "(I)I"⟩, 5) := ⟨⟨by decide +kernel, by decide +kernel⟩, List.mem_of_getElem? (i := 30) (by decide +kernel), List.mem_of_getElem? (i := 307) (by decide +kernel), List.mem_of_getElem? (i := 308) (by decide +kernel)⟩
theorem lw_p13 : lw_okq (⟨"BuildDisk", "doStep", "()Z"⟩, 14) := ⟨⟨by decide +kernel, by decide +kernel⟩, List.mem_of_getElem? (i := 16) (by decide +kernel), List.mem_of_getElem? (i := 354) (by decide +kernel), List.mem_of_getElem? (i := 355) (by decide +kernel)⟩
theorem lw_p14 : lw_okq (⟨"BuildDisk", "takePlace", "(I)V"⟩, 14) := ⟨⟨by decide +kernel, by decide +kernel⟩, List.mem_of_getElem? (i := 16) (by decide +kernel), List.mem_of_getElem? (i := 358) (by decide +kernel), List.mem_of_getElem? (i := 359) (by decide +kernel)⟩
theorem lw_p15 : lw_okq (⟨"BuildDisk", "endCompaction", "()V"⟩, 14) := ⟨⟨by decide +kernel, by decide +kernel⟩, List.mem_of_getElem? (i := 16) (by decide +kernel), List.mem_of_getElem? (i := 370) (by decide +kernel), List.mem_of_getElem? (i := 371) (by decide +kernel)⟩
def lw_privs_1 : List (MethodName × Nat) := [(⟨"BuildDisk", "fitsEdition", "(J)Z"⟩, 14), (⟨"BuildDisk", "beginEmpty", "()V"⟩, 14), (⟨"BuildDisk$Table", "index", "()V"⟩, 10), (⟨"BuildDisk$Table", "indexPlace", "(I)V"⟩, 10), (⟨"BuildDisk", "clearArea", "(I)V"⟩, 14), (⟨"BuildDisk", "firstSector", "(I)I"⟩, 14), (⟨"BuildDisk$Disk", "addTarget", "(I)I"⟩, 5), (⟨"BuildDisk", "beginBy", "(I)V"⟩, 14), (⟨"BuildDisk$Table", "readRow", "([BII)V"⟩, 10), (⟨"BuildDisk", "changeHeads", "()V"⟩, 14), (⟨"BuildDisk", "keep", "(IIJ)I"⟩, 14), (⟨"BuildDisk", "writeRow", "(III)V"⟩, 14), (⟨"BuildDisk$Disk", "latestWrite", "(I)I"⟩, 5), (⟨"BuildDisk", "doStep", "()Z"⟩, 14), (⟨"BuildDisk", "takePlace", "(I)V"⟩, 14), (⟨"BuildDisk", "endCompaction", "()V"⟩, 14)]
theorem lw_r1 : ∀ q ∈ lw_privs_1, lw_okq q := List.forall_mem_cons.mpr ⟨lw_p0, List.forall_mem_cons.mpr ⟨lw_p1, List.forall_mem_cons.mpr ⟨lw_p2, List.forall_mem_cons.mpr ⟨lw_p3, List.forall_mem_cons.mpr ⟨lw_p4, List.forall_mem_cons.mpr ⟨lw_p5, List.forall_mem_cons.mpr ⟨lw_p6, List.forall_mem_cons.mpr ⟨lw_p7, List.forall_mem_cons.mpr ⟨lw_p8, List.forall_mem_cons.mpr ⟨lw_p9, List.forall_mem_cons.mpr ⟨lw_p10, List.forall_mem_cons.mpr ⟨lw_p11, List.forall_mem_cons.mpr ⟨lw_p12, List.forall_mem_cons.mpr ⟨lw_p13, List.forall_mem_cons.mpr ⟨lw_p14, List.forall_mem_cons.mpr ⟨lw_p15, fun _ h => absurd h List.not_mem_nil⟩⟩⟩⟩⟩⟩⟩⟩⟩⟩⟩⟩⟩⟩⟩⟩
theorem lw_p16 : lw_okq (⟨"BuildDisk$Table", "move", "(II)V"⟩, 10) := ⟨⟨by decide +kernel, by decide +kernel⟩, List.mem_of_getElem? (i := 58) (by decide +kernel), List.mem_of_getElem? (i := 378) (by decide +kernel), List.mem_of_getElem? (i := 379) (by decide +kernel)⟩
theorem lw_p17 : lw_okq (⟨"BuildDisk", "allAskedAhead", "(I)Z"⟩, 14) := ⟨⟨by decide +kernel, by decide +kernel⟩, List.mem_of_getElem? (i := 16) (by decide +kernel), List.mem_of_getElem? (i := 420) (by decide +kernel), List.mem_of_getElem? (i := 421) (by decide +kernel)⟩
theorem lw_p18 : lw_okq (⟨"BuildDisk", "aboutRunning", "(I)I"⟩, 14) := ⟨⟨by decide +kernel, by decide +kernel⟩, List.mem_of_getElem? (i := 16) (by decide +kernel), List.mem_of_getElem? (i := 457) (by decide +kernel), List.mem_of_getElem? (i := 458) (by decide +kernel)⟩
theorem lw_p19 : lw_okq (⟨"java/lang/Throwable", "fillInStackTrace", "(I)Ljava/lang/Throwable;"⟩, 6) := ⟨⟨by decide +kernel, by decide +kernel⟩, List.mem_of_getElem? (i := 518) (by decide +kernel), List.mem_of_getElem? (i := 516) (by decide +kernel), List.mem_of_getElem? (i := 517) (by decide +kernel)⟩
theorem lw_p20 : lw_okq (⟨"BuildDiskModel", "isHead", "(I)Z"⟩, 26) := ⟨⟨by decide +kernel, by decide +kernel⟩, List.mem_of_getElem? (i := 550) (by decide +kernel), List.mem_of_getElem? (i := 644) (by decide +kernel), List.mem_of_getElem? (i := 645) (by decide +kernel)⟩
theorem lw_p21 : lw_okq (⟨"BuildDiskModel", "load", "(I)V"⟩, 26) := ⟨⟨by decide +kernel, by decide +kernel⟩, List.mem_of_getElem? (i := 550) (by decide +kernel), List.mem_of_getElem? (i := 648) (by decide +kernel), List.mem_of_getElem? (i := 649) (by decide +kernel)⟩
theorem lw_p22 : lw_okq (⟨"BuildDiskModel", "number", "(II)I"⟩, 26) := ⟨⟨by decide +kernel, by decide +kernel⟩, List.mem_of_getElem? (i := 550) (by decide +kernel), List.mem_of_getElem? (i := 652) (by decide +kernel), List.mem_of_getElem? (i := 653) (by decide +kernel)⟩
theorem lw_p23 : lw_okq (⟨"BuildDiskModel", "sum", "(III)I"⟩, 26) := ⟨⟨by decide +kernel, by decide +kernel⟩, List.mem_of_getElem? (i := 550) (by decide +kernel), List.mem_of_getElem? (i := 657) (by decide +kernel), List.mem_of_getElem? (i := 658) (by decide +kernel)⟩
theorem lw_p24 : lw_okq (⟨"BuildDiskModel", "zeros", "(I)V"⟩, 26) := ⟨⟨by decide +kernel, by decide +kernel⟩, List.mem_of_getElem? (i := 550) (by decide +kernel), List.mem_of_getElem? (i := 665) (by decide +kernel), List.mem_of_getElem? (i := 666) (by decide +kernel)⟩
theorem lw_p25 : lw_okq (⟨"BuildDiskModel", "clear", "()V"⟩, 26) := ⟨⟨by decide +kernel, by decide +kernel⟩, List.mem_of_getElem? (i := 550) (by decide +kernel), List.mem_of_getElem? (i := 669) (by decide +kernel), List.mem_of_getElem? (i := 670) (by decide +kernel)⟩
theorem lw_p26 : lw_okq (⟨"BuildDiskModel", "send", "(I)V"⟩, 26) := ⟨⟨by decide +kernel, by decide +kernel⟩, List.mem_of_getElem? (i := 550) (by decide +kernel), List.mem_of_getElem? (i := 673) (by decide +kernel), List.mem_of_getElem? (i := 674) (by decide +kernel)⟩
theorem lw_p27 : lw_okq (⟨"BuildDiskModel", "bringAll", "()V"⟩, 26) := ⟨⟨by decide +kernel, by decide +kernel⟩, List.mem_of_getElem? (i := 550) (by decide +kernel), List.mem_of_getElem? (i := 677) (by decide +kernel), List.mem_of_getElem? (i := 678) (by decide +kernel)⟩
theorem lw_p28 : lw_okq (⟨"BuildDiskModel", "bring", "(II)V"⟩, 26) := ⟨⟨by decide +kernel, by decide +kernel⟩, List.mem_of_getElem? (i := 550) (by decide +kernel), List.mem_of_getElem? (i := 681) (by decide +kernel), List.mem_of_getElem? (i := 682) (by decide +kernel)⟩
theorem lw_p29 : lw_okq (⟨"BuildDiskModel", "read", "(I)V"⟩, 26) := ⟨⟨by decide +kernel, by decide +kernel⟩, List.mem_of_getElem? (i := 550) (by decide +kernel), List.mem_of_getElem? (i := 685) (by decide +kernel), List.mem_of_getElem? (i := 686) (by decide +kernel)⟩
theorem lw_p30 : lw_okq (⟨"BuildDiskModel", "sectorOf", "(II)I"⟩, 26) := ⟨⟨by decide +kernel, by decide +kernel⟩, List.mem_of_getElem? (i := 550) (by decide +kernel), List.mem_of_getElem? (i := 689) (by decide +kernel), List.mem_of_getElem? (i := 690) (by decide +kernel)⟩
theorem lw_p31 : lw_okq (⟨"BuildDiskModel", "isRow", "(I)Z"⟩, 26) := ⟨⟨by decide +kernel, by decide +kernel⟩, List.mem_of_getElem? (i := 550) (by decide +kernel), List.mem_of_getElem? (i := 693) (by decide +kernel), List.mem_of_getElem? (i := 694) (by decide +kernel)⟩
def lw_privs_2 : List (MethodName × Nat) := [(⟨"BuildDisk$Table", "move", "(II)V"⟩, 10), (⟨"BuildDisk", "allAskedAhead", "(I)Z"⟩, 14), (⟨"BuildDisk", "aboutRunning", "(I)I"⟩, 14), (⟨"java/lang/Throwable", "fillInStackTrace", "(I)Ljava/lang/Throwable;"⟩, 6), (⟨"BuildDiskModel", "isHead", "(I)Z"⟩, 26), (⟨"BuildDiskModel", "load", "(I)V"⟩, 26), (⟨"BuildDiskModel", "number", "(II)I"⟩, 26), (⟨"BuildDiskModel", "sum", "(III)I"⟩, 26), (⟨"BuildDiskModel", "zeros", "(I)V"⟩, 26), (⟨"BuildDiskModel", "clear", "()V"⟩, 26), (⟨"BuildDiskModel", "send", "(I)V"⟩, 26), (⟨"BuildDiskModel", "bringAll", "()V"⟩, 26), (⟨"BuildDiskModel", "bring", "(II)V"⟩, 26), (⟨"BuildDiskModel", "read", "(I)V"⟩, 26), (⟨"BuildDiskModel", "sectorOf", "(II)I"⟩, 26), (⟨"BuildDiskModel", "isRow", "(I)Z"⟩, 26)]
theorem lw_r2 : ∀ q ∈ lw_privs_2, lw_okq q := List.forall_mem_cons.mpr ⟨lw_p16, List.forall_mem_cons.mpr ⟨lw_p17, List.forall_mem_cons.mpr ⟨lw_p18, List.forall_mem_cons.mpr ⟨lw_p19, List.forall_mem_cons.mpr ⟨lw_p20, List.forall_mem_cons.mpr ⟨lw_p21, List.forall_mem_cons.mpr ⟨lw_p22, List.forall_mem_cons.mpr ⟨lw_p23, List.forall_mem_cons.mpr ⟨lw_p24, List.forall_mem_cons.mpr ⟨lw_p25, List.forall_mem_cons.mpr ⟨lw_p26, List.forall_mem_cons.mpr ⟨lw_p27, List.forall_mem_cons.mpr ⟨lw_p28, List.forall_mem_cons.mpr ⟨lw_p29, List.forall_mem_cons.mpr ⟨lw_p30, List.forall_mem_cons.mpr ⟨lw_p31, fun _ h => absurd h List.not_mem_nil⟩⟩⟩⟩⟩⟩⟩⟩⟩⟩⟩⟩⟩⟩⟩⟩
theorem lw_p32 : lw_okq (⟨"BuildDiskModel", "changeHeads", "()V"⟩, 26) := ⟨⟨by decide +kernel, by decide +kernel⟩, List.mem_of_getElem? (i := 550) (by decide +kernel), List.mem_of_getElem? (i := 704) (by decide +kernel), List.mem_of_getElem? (i := 705) (by decide +kernel)⟩
theorem lw_p33 : lw_okq (⟨"BuildDiskModel", "head", "()V"⟩, 26) := ⟨⟨by decide +kernel, by decide +kernel⟩, List.mem_of_getElem? (i := 550) (by decide +kernel), List.mem_of_getElem? (i := 708) (by decide +kernel), List.mem_of_getElem? (i := 709) (by decide +kernel)⟩
theorem lw_p34 : lw_okq (⟨"BuildDiskModel", "put", "(IJI)V"⟩, 26) := ⟨⟨by decide +kernel, by decide +kernel⟩, List.mem_of_getElem? (i := 550) (by decide +kernel), List.mem_of_getElem? (i := 712) (by decide +kernel), List.mem_of_getElem? (i := 713) (by decide +kernel)⟩
theorem lw_p35 : lw_okq (⟨"BuildDiskModel", "keep", "(IIJ)I"⟩, 26) := ⟨⟨by decide +kernel, by decide +kernel⟩, List.mem_of_getElem? (i := 550) (by decide +kernel), List.mem_of_getElem? (i := 721) (by decide +kernel), List.mem_of_getElem? (i := 722) (by decide +kernel)⟩
theorem lw_p36 : lw_okq (⟨"BuildDiskModel", "write", "(III)V"⟩, 26) := ⟨⟨by decide +kernel, by decide +kernel⟩, List.mem_of_getElem? (i := 550) (by decide +kernel), List.mem_of_getElem? (i := 725) (by decide +kernel), List.mem_of_getElem? (i := 726) (by decide +kernel)⟩
theorem lw_p37 : lw_okq (⟨"BuildDiskModel", "step", "()Z"⟩, 26) := ⟨⟨by decide +kernel, by decide +kernel⟩, List.mem_of_getElem? (i := 550) (by decide +kernel), List.mem_of_getElem? (i := 741) (by decide +kernel), List.mem_of_getElem? (i := 742) (by decide +kernel)⟩
theorem lw_p38 : lw_okq (⟨"BuildDiskModel", "latest", "(I)I"⟩, 26) := ⟨⟨by decide +kernel, by decide +kernel⟩, List.mem_of_getElem? (i := 550) (by decide +kernel), List.mem_of_getElem? (i := 745) (by decide +kernel), List.mem_of_getElem? (i := 746) (by decide +kernel)⟩
theorem lw_p39 : lw_okq (⟨"BuildDiskModel", "isWrongBehind", "(I)Z"⟩, 26) := ⟨⟨by decide +kernel, by decide +kernel⟩, List.mem_of_getElem? (i := 550) (by decide +kernel), List.mem_of_getElem? (i := 749) (by decide +kernel), List.mem_of_getElem? (i := 750) (by decide +kernel)⟩
theorem lw_p40 : lw_okq (⟨"BuildDiskModel", "lockRow", "()I"⟩, 26) := ⟨⟨by decide +kernel, by decide +kernel⟩, List.mem_of_getElem? (i := 550) (by decide +kernel), List.mem_of_getElem? (i := 753) (by decide +kernel), List.mem_of_getElem? (i := 754) (by decide +kernel)⟩
theorem lw_p41 : lw_okq (⟨"BuildDiskModel", "copyRow", "(II)V"⟩, 26) := ⟨⟨by decide +kernel, by decide +kernel⟩, List.mem_of_getElem? (i := 550) (by decide +kernel), List.mem_of_getElem? (i := 757) (by decide +kernel), List.mem_of_getElem? (i := 758) (by decide +kernel)⟩
theorem lw_p42 : lw_okq (⟨"BuildDiskModel", "holder", "()I"⟩, 26) := ⟨⟨by decide +kernel, by decide +kernel⟩, List.mem_of_getElem? (i := 550) (by decide +kernel), List.mem_of_getElem? (i := 793) (by decide +kernel), List.mem_of_getElem? (i := 794) (by decide +kernel)⟩
def lw_privs_3 : List (MethodName × Nat) := [(⟨"BuildDiskModel", "changeHeads", "()V"⟩, 26), (⟨"BuildDiskModel", "head", "()V"⟩, 26), (⟨"BuildDiskModel", "put", "(IJI)V"⟩, 26), (⟨"BuildDiskModel", "keep", "(IIJ)I"⟩, 26), (⟨"BuildDiskModel", "write", "(III)V"⟩, 26), (⟨"BuildDiskModel", "step", "()Z"⟩, 26), (⟨"BuildDiskModel", "latest", "(I)I"⟩, 26), (⟨"BuildDiskModel", "isWrongBehind", "(I)Z"⟩, 26), (⟨"BuildDiskModel", "lockRow", "()I"⟩, 26), (⟨"BuildDiskModel", "copyRow", "(II)V"⟩, 26), (⟨"BuildDiskModel", "holder", "()I"⟩, 26)]
theorem lw_r3 : ∀ q ∈ lw_privs_3, lw_okq q := List.forall_mem_cons.mpr ⟨lw_p32, List.forall_mem_cons.mpr ⟨lw_p33, List.forall_mem_cons.mpr ⟨lw_p34, List.forall_mem_cons.mpr ⟨lw_p35, List.forall_mem_cons.mpr ⟨lw_p36, List.forall_mem_cons.mpr ⟨lw_p37, List.forall_mem_cons.mpr ⟨lw_p38, List.forall_mem_cons.mpr ⟨lw_p39, List.forall_mem_cons.mpr ⟨lw_p40, List.forall_mem_cons.mpr ⟨lw_p41, List.forall_mem_cons.mpr ⟨lw_p42, fun _ h => absurd h List.not_mem_nil⟩⟩⟩⟩⟩⟩⟩⟩⟩⟩⟩
def lw_privs : List (MethodName × Nat) := lw_privs_1 ++ (lw_privs_2 ++ (lw_privs_3))
def lw_tbl : List Cond := k2_sels lw_privs ++ tables_1
theorem lw_privs_ok : ∀ q ∈ lw_privs, lw_okq q := by
  show ∀ q ∈ lw_privs_1 ++ (lw_privs_2 ++ (lw_privs_3)), lw_okq q
  exact List.forall_mem_append.mpr ⟨lw_r1, List.forall_mem_append.mpr ⟨lw_r2, lw_r3⟩⟩
/-! the words that every contract carries: those of lw_tbl that stay true -/
def lw_T : List Cond := lw_tbl.filter goodWord
theorem lw_good : ∀ w ∈ lw_T, (w.onTables && w.keeps) = true ∨ ∃ ty, w = .arrayClass ty := fun w h => good_of_word (List.mem_filter.mp h).2
theorem lw_T_tbl : ∀ w ∈ lw_T, w ∈ lw_tbl := fun w h => (List.mem_filter.mp h).1
theorem lw_inS {w : Cond} (i : Nat) (h : (k2_sels lw_privs)[i]? = some w) (g : goodWord w = true) : w ∈ lw_T := List.mem_filter.mpr ⟨List.mem_append_left _ (List.mem_of_getElem? h), g⟩
theorem lw_in1 {w : Cond} (i : Nat) (h : tables_1_1[i]? = some w) (g : goodWord w = true) : w ∈ lw_T := List.mem_filter.mpr ⟨List.mem_append_right _ (List.mem_append_left _ (List.mem_of_getElem? h)), g⟩
theorem lw_in2 {w : Cond} (i : Nat) (h : tables_1_2[i]? = some w) (g : goodWord w = true) : w ∈ lw_T := List.mem_filter.mpr ⟨List.mem_append_right _ (List.mem_append_right _ (List.mem_append_left _ (List.mem_of_getElem? h))), g⟩
theorem lw_in3 {w : Cond} (i : Nat) (h : tables_1_3[i]? = some w) (g : goodWord w = true) : w ∈ lw_T := List.mem_filter.mpr ⟨List.mem_append_right _ (List.mem_append_right _ (List.mem_append_right _ (List.mem_append_left _ (List.mem_of_getElem? h)))), g⟩
theorem lw_in4 {w : Cond} (i : Nat) (h : tables_1_4[i]? = some w) (g : goodWord w = true) : w ∈ lw_T := List.mem_filter.mpr ⟨List.mem_append_right _ (List.mem_append_right _ (List.mem_append_right _ (List.mem_append_right _ (List.mem_of_getElem? h)))), g⟩
end
section
/-! numbers: every int of a walk is iZ z, z an Int -/
def iZ (z : Int) : Int32 := Int32.ofInt z
theorem iZ_toInt {z : Int} (h : -2147483648 ≤ z ∧ z ≤ 2147483647) : (iZ z).toInt = z := Int32.toInt_ofInt_of_le (by omega) (by omega)
theorem iZ_of (x : Int32) : iZ x.toInt = x := Int32.ofInt_toInt x
theorem iZ_ex (x : Int32) : ∃ z : Int, (-2147483648 ≤ z ∧ z ≤ 2147483647) ∧ x = iZ z := ⟨x.toInt, ⟨by have := x.le_toInt; omega, by have := x.toInt_lt; omega⟩, (iZ_of x).symm⟩
theorem iZ_add (a b : Int) : iZ a + iZ b = iZ (a + b) := (Int32.ofInt_add a b).symm
theorem iZ_sub (a b : Int) : iZ a - iZ b = iZ (a - b) := (Int32.ofInt_sub a b).symm
theorem iZ_mul (a b : Int) : iZ a * iZ b = iZ (a * b) := (Int32.ofInt_mul a b).symm
theorem iZ_neg (a : Int) : -iZ a = iZ (-a) := (Int32.ofInt_neg a).symm
theorem iZ_lt {a b : Int} (h : (-2147483648 ≤ a ∧ a ≤ 2147483647) ∧ (-2147483648 ≤ b ∧ b ≤ 2147483647)) : iZ a < iZ b ↔ a < b := by rw [Int32.lt_iff_toInt_lt, iZ_toInt h.1, iZ_toInt h.2]
theorem iZ_le {a b : Int} (h : (-2147483648 ≤ a ∧ a ≤ 2147483647) ∧ (-2147483648 ≤ b ∧ b ≤ 2147483647)) : iZ a ≤ iZ b ↔ a ≤ b := by rw [Int32.le_iff_toInt_le, iZ_toInt h.1, iZ_toInt h.2]
theorem iZ_eq {a b : Int} (h : (-2147483648 ≤ a ∧ a ≤ 2147483647) ∧ (-2147483648 ≤ b ∧ b ≤ 2147483647)) : iZ a = iZ b ↔ a = b := ⟨fun q => by rw [← iZ_toInt h.1, ← iZ_toInt h.2, q], fun q => by rw [q]⟩
theorem iZ_0 : iZ 0 = 0 := rfl
theorem iZ_cl {a : Int} (h : 0 ≤ a ∧ a ≤ 2147483647) : (iZ a).toNatClampNeg = a.toNat := Int32.toNatClampNeg_ofInt_of_le (by omega) (by omega)
theorem iZ_in {a : Int} {n : Nat} (h : 0 ≤ a ∧ a < n) (hn : n < 2147483648) : vp_in (iZ a) n := by
  rw [vp_in_iff, iZ_toInt ⟨by omega, by omega⟩]
  exact h
theorem iZ_nat (n : Nat) : Int32.ofNat n = iZ (n : Int) := (Int32.ofInt_eq_ofNat).symm
theorem iZ_and255 (a : Int) : iZ a &&& 255 = iZ (a % 256) := by
  have h : (255 : Int32).toBitVec.toNat = 2 ^ 8 - 1 := by decide
  rw [pk_and (iZ a) 8 h]
  have e1 : (iZ a).toBitVec = BitVec.ofInt 32 a := rfl
  rw [e1, BitVec.toNat_ofInt]
  show Int32.ofNat _ = _
  rw [iZ_nat]
  congr 1
  omega
theorem iZ_and1 (a : Int) : iZ a &&& 1 = iZ (a % 2) := by
  have h : (1 : Int32).toBitVec.toNat = 2 ^ 1 - 1 := by decide
  rw [pk_and (iZ a) 1 h]
  have e1 : (iZ a).toBitVec = BitVec.ofInt 32 a := rfl
  rw [e1, BitVec.toNat_ofInt]
  show Int32.ofNat _ = _
  rw [iZ_nat]
  congr 1
  omega
theorem iZ_and15 (a : Int) : iZ a &&& 15 = iZ (a % 16) := by
  have h : (15 : Int32).toBitVec.toNat = 2 ^ 4 - 1 := by decide
  rw [pk_and (iZ a) 4 h]
  have e1 : (iZ a).toBitVec = BitVec.ofInt 32 a := rfl
  rw [e1, BitVec.toNat_ofInt]
  show Int32.ofNat _ = _
  rw [iZ_nat]
  congr 1
  omega
theorem iZ_b (a : Int) : (iZ a).toInt8.toInt32 = iZ (a.bmod 256) := by
  show (Int32.ofInt a).toInt8.toInt32 = _
  rw [Int32.toInt8_ofInt]
  show (Int8.ofInt a).toInt32 = Int32.ofInt _
  rw [← Int32.ofInt_int8ToInt, Int8.toInt_ofInt]
theorem iZ_div {a b : Int} (ha : (-2147483648 ≤ a ∧ a ≤ 2147483647)) (hb : 0 < b ∧ b ≤ 2147483647) : iZ a / iZ b = iZ (a.tdiv b) := by
  apply Int32.toInt.inj
  rw [Int32.toInt_div_of_ne_right _ _ (fun q => by
    have : (iZ b).toInt = -1 := by rw [q]; rfl
    rw [iZ_toInt ⟨by omega, by omega⟩] at this; omega), iZ_toInt ha, iZ_toInt ⟨by omega, by omega⟩, iZ_toInt]
  have h1 : a.tdiv b ≤ 2147483647 ∧ -2147483648 ≤ a.tdiv b := by
    rcases Int.le_total 0 a with h | h
    · have h2 := Int.tdiv_nonneg h (Int.le_of_lt hb.1)
      have h3 : a.tdiv b ≤ a := Int.tdiv_le_self b h
      omega
    · have h2 : (-a).tdiv b = -(a.tdiv b) := Int.neg_tdiv a b
      have h4 := Int.tdiv_nonneg (show 0 ≤ -a by omega) (Int.le_of_lt hb.1)
      have h3 : (-a).tdiv b ≤ -a := Int.tdiv_le_self b (by omega)
      omega
  exact ⟨h1.2, h1.1⟩
theorem iZ_rem {a b : Int} (ha : (-2147483648 ≤ a ∧ a ≤ 2147483647)) (hb : 0 < b ∧ b ≤ 2147483647) : iZ a - iZ a / iZ b * iZ b = iZ (a.tmod b) := by
  rw [iZ_div ha hb, iZ_mul, iZ_sub]
  congr 1
  have := Int.mul_tdiv_add_tmod a b
  have h2 : a.tdiv b * b = b * a.tdiv b := Int.mul_comm _ _
  omega
theorem iZ_max (a b : Int) (h : (-2147483648 ≤ a ∧ a ≤ 2147483647) ∧ (-2147483648 ≤ b ∧ b ≤ 2147483647)) : (if iZ a < iZ b then iZ b else iZ a) = iZ (max a b) := by
  by_cases q : a < b
  · rw [if_pos ((iZ_lt h).mpr q), show max a b = b by omega]
  · rw [if_neg (fun z => q ((iZ_lt h).mp z)), show max a b = a by omega]
theorem iZ_min (a b : Int) (h : (-2147483648 ≤ a ∧ a ≤ 2147483647) ∧ (-2147483648 ≤ b ∧ b ≤ 2147483647)) : (if iZ b < iZ a then iZ b else iZ a) = iZ (min a b) := by
  by_cases q : b < a
  · rw [if_pos ((iZ_lt ⟨h.2, h.1⟩).mpr q), show min a b = b by omega]
  · rw [if_neg (fun z => q ((iZ_lt ⟨h.2, h.1⟩).mp z)), show min a b = a by omega]
/-! contents of an array of ints -/
def zf (z : Nat → Int) : Nat → Int32 := fun j => iZ (z j)
def zu (z : Nat → Int) (k : Nat) (v : Int) : Nat → Int := fun j => if j = k then v else z j
theorem zu_s {z : Nat → Int} {k : Nat} {v : Int} : zu z k v k = v := if_pos rfl
theorem zu_n {z : Nat → Int} {k j : Nat} {v : Int} (h : j ≠ k) : zu z k v j = z j := if_neg h
theorem zf_upd (z : Nat → Int) (k : Nat) (v : Int) : upd (zf z) k (iZ v) = zf (zu z k v) := by
  funext j
  unfold upd zf zu
  by_cases h : j = k <;> simp [h]
theorem zf_0 : (fun _ => (0 : Int32)) = zf (fun _ => 0) := rfl
theorem zf_cpy (z w : Nat → Int) (sp dp n : Nat) : va_cpy (zf z) (zf w) sp dp n = zf (va_cpy z w sp dp n) := by
  funext j
  unfold va_cpy zf
  by_cases h : dp ≤ j ∧ j < dp + n <;> simp [h]
def rng (lo hi : Int) (z : Nat → Int) : Prop := ∀ j, lo ≤ z j ∧ z j ≤ hi
theorem rng_0 {lo hi : Int} (h : lo ≤ 0 ∧ 0 ≤ hi) : rng lo hi (fun _ => 0) := fun _ => h
theorem rng_zu {lo hi : Int} {z : Nat → Int} {k : Nat} {v : Int} (h : rng lo hi z) (hv : lo ≤ v ∧ v ≤ hi) : rng lo hi (zu z k v) := fun j => by
  unfold zu
  by_cases q : j = k
  · rw [if_pos q]; exact hv
  · rw [if_neg q]; exact h j
theorem rng_cpy {lo hi : Int} {z w : Nat → Int} {sp dp n : Nat} (h : rng lo hi z) (h2 : rng lo hi w) : rng lo hi (va_cpy z w sp dp n) := fun j => by
  unfold va_cpy
  by_cases q : dp ≤ j ∧ j < dp + n
  · rw [if_pos q]; exact h _
  · rw [if_neg q]; exact h2 j
theorem bm_r (v : Int) : -128 ≤ v.bmod 256 ∧ v.bmod 256 ≤ 127 := by
  have h1 := Int.bmod_lt (x := v) (m := 256) (by decide)
  have h2 := Int.le_bmod (x := v) (m := 256) (by decide)
  omega
theorem bm_id {v : Int} (h : -128 ≤ v ∧ v ≤ 127) : v.bmod 256 = v := Int.bmod_eq_of_le (by omega) (by omega)
theorem fitB {x : Int} (h : -128 ≤ x ∧ x ≤ 127) : fits .byte (.int (iZ x)) = true := by
  have h1 := pk_fb (iZ x)
  rw [iZ_b, bm_id h] at h1
  exact h1
theorem dv_spec (a b : Int) (_ : 0 < b) : 0 ≤ a → a.tdiv b = a / b := fun h => Int.tdiv_eq_ediv_of_nonneg h
theorem md_spec (a b : Int) (hb : 0 < b) : (0 ≤ a → a.tmod b = a % b) ∧ -b < a.tmod b ∧ a.tmod b < b := ⟨fun h => Int.tmod_eq_emod_of_nonneg h, (tmod_bounds hb).1, (tmod_bounds hb).2⟩
/-! cells -/
abbrev KI : Type := ClassId × ClassId × ClassId × ClassId
abbrev TY (K : KI) : List (ClassId × FieldType) := [(K.1, .int), (K.2.1, .byte), (K.2.2.1, .boolean), (K.2.2.2, .long)]
abbrev aI (K : KI) (a n : Nat) (z : Nat → Int) : Nat × va_E := (a, .inl (K.1, n, .inl (zf z)))
abbrev aB (K : KI) (a n : Nat) (z : Nat → Int) : Nat × va_E := (a, .inl (K.2.1, n, .inl (zf z)))
abbrev aZ (K : KI) (a n : Nat) (z : Nat → Int) : Nat × va_E := (a, .inl (K.2.2.1, n, .inl (zf z)))
abbrev aL (K : KI) (a n : Nat) (f : Nat → Int64) : Nat × va_E := (a, .inl (K.2.2.2, n, .inr (.inl f)))
/-! the context of a walk -/
abbrev ZC : Type := Program × Launch × Env × State × MethodId × Array Value × List Frame × Method × Code × (State → Prop) × (Nat → Prop) × Heap
abbrev zl (C : ZC) : Launch := C.2.1
abbrev zNm (C : ZC) : String := C.2.2.2.2.2.2.2.1.name
def Go (C : ZC) (R : Room) (D : va_G) (cl : List vw_C) (nL : Nat) (k n : Nat) (ws : va_W) (pc : Nat) (lv : List (Nat × Value)) (st : List Value) : Prop := match C with
  | (p, l, e, s, m, args, below, meth, c, Q, A, H0) => ∀ (H : Heap) (locs : List Loc) (ls : Array Slot), va_P D cl ws H → va_D A ws → va_S A H0 H locs → lv_has ls nL lv → W p l e R s m args below meth c H locs k n Q (F0 m pc ls st)
def Fx (C : ZC) (D : va_G) (cl : List vw_C) (tys : List (ClassId × FieldType)) (cc : ByteArray) (nL : Nat) (Ts : List Cond) (own : String) : Prop := match C with
  | (p, l, e, s, m, args, below, meth, c, Q, A, H0) => CallFix p m c cc nL s args Ts own ∧ va_K D cl tys s ∧ (∀ q, H0.size ≤ q → A q) ∧ meth.locks = false
section ZROW
variable {C : ZC} {R : Room} {D : va_G} {cl : List vw_C} {tys : List (ClassId × FieldType)} {cc : ByteArray} {nL : Nat} {Ts : List Cond} {own : String} {kc ns : Nat} {ws : va_W} {pc : Nat} {lv : List (Nat × Value)} {st : List Value}
theorem z_iconst (F : Fx C D cl tys cc nL Ts own) {n : Int} (hd : decode cc pc = .ok (.iconst n, 1)) (k : Go C R D cl nL kc ns (ws) (pc + 1) (lv) (.int (iZ n) :: st)) : Go C R D cl nL kc ns (ws) (pc) (lv) (st) := by
  obtain ⟨p, l, e, s, m, args, below, meth, c, Q, A, H0⟩ := C
  obtain ⟨⟨hx, hb, hml, hown, hts⟩, hK, hA, hlk0⟩ := F
  intro H locs ls hP hD hS hl
  exact lv_iconst hx hb hd rfl (k H locs ls hP hD hS hl)
theorem z_bipush (F : Fx C D cl tys cc nL Ts own) {n : Int} (hd : decode cc pc = .ok (.bipush n, 2)) (hv : (Int8.ofInt n).toInt32 = iZ n) (k : Go C R D cl nL kc ns (ws) (pc + 2) (lv) (.int (iZ n) :: st)) : Go C R D cl nL kc ns (ws) (pc) (lv) (st) := by
  obtain ⟨p, l, e, s, m, args, below, meth, c, Q, A, H0⟩ := C
  obtain ⟨⟨hx, hb, hml, hown, hts⟩, hK, hA, hlk0⟩ := F
  intro H locs ls hP hD hS hl
  exact lv_bipush hx hb hd hv (k H locs ls hP hD hS hl)
theorem z_sipush (F : Fx C D cl tys cc nL Ts own) {n : Int} (hd : decode cc pc = .ok (.sipush n, 3)) (hv : (Int16.ofInt n).toInt32 = iZ n) (k : Go C R D cl nL kc ns (ws) (pc + 3) (lv) (.int (iZ n) :: st)) : Go C R D cl nL kc ns (ws) (pc) (lv) (st) := by
  obtain ⟨p, l, e, s, m, args, below, meth, c, Q, A, H0⟩ := C
  obtain ⟨⟨hx, hb, hml, hown, hts⟩, hK, hA, hlk0⟩ := F
  intro H locs ls hP hD hS hl
  exact lv_sipush hx hb hd hv (k H locs ls hP hD hS hl)
theorem z_lconst (F : Fx C D cl tys cc nL Ts own) {n : Fin 2} {v : Int64} (hd : decode cc pc = .ok (.lconst n, 1)) (hv : Int64.ofNat (n : Nat) = v) (k : Go C R D cl nL kc ns (ws) (pc + 1) (lv) (.long v :: st)) : Go C R D cl nL kc ns (ws) (pc) (lv) (st) := by
  obtain ⟨p, l, e, s, m, args, below, meth, c, Q, A, H0⟩ := C
  obtain ⟨⟨hx, hb, hml, hown, hts⟩, hK, hA, hlk0⟩ := F
  intro H locs ls hP hD hS hl
  exact lv_lconst hx hb hd hv (k H locs ls hP hD hS hl)
theorem z_ldc (F : Fx C D cl tys cc nL Ts own) {index : Nat} {v : Int32} {z : Int} (hc : Cond.constant own index v ∈ Ts) (hd : decode cc pc = .ok (.ldc index, 2)) (hv : v = iZ z) (k : Go C R D cl nL kc ns (ws) (pc + 2) (lv) (.int (iZ z) :: st)) : Go C R D cl nL kc ns (ws) (pc) (lv) (st) := by
  obtain ⟨p, l, e, s, m, args, below, meth, c, Q, A, H0⟩ := C
  obtain ⟨⟨hx, hb, hml, hown, hts⟩, hK, hA, hlk0⟩ := F
  intro H locs ls hP hD hS hl
  subst hv
  exact lv_ldc hx hb hown (hts _ hc) hd (k H locs ls hP hD hS hl)
theorem z_ldc2 (F : Fx C D cl tys cc nL Ts own) {index : Nat} {v : Int64} (hc : Cond.constantLong own index v ∈ Ts) (hd : decode cc pc = .ok (.ldc2_w index, 3)) (k : Go C R D cl nL kc ns (ws) (pc + 3) (lv) (.long v :: st)) : Go C R D cl nL kc ns (ws) (pc) (lv) (st) := by
  obtain ⟨p, l, e, s, m, args, below, meth, c, Q, A, H0⟩ := C
  obtain ⟨⟨hx, hb, hml, hown, hts⟩, hK, hA, hlk0⟩ := F
  intro H locs ls hP hD hS hl
  exact lv_ldc2 hx hb hown (hts _ hc) hd (k H locs ls hP hD hS hl)
theorem z_iload_n (F : Fx C D cl tys cc nL Ts own) {i : Fin 4} {x : Int32} (j : Nat) (hd : decode cc pc = .ok (.iload_n i, 1)) (hl0 : lv[j]? = some ((i : Nat), .int x)) (k : Go C R D cl nL kc ns (ws) (pc + 1) (lv) (.int x :: st)) : Go C R D cl nL kc ns (ws) (pc) (lv) (st) := by
  obtain ⟨p, l, e, s, m, args, below, meth, c, Q, A, H0⟩ := C
  obtain ⟨⟨hx, hb, hml, hown, hts⟩, hK, hA, hlk0⟩ := F
  intro H locs ls hP hD hS hl
  exact lv_iload_n hx hb hd rfl (lv_at hl j hl0) (k H locs ls hP hD hS hl)
theorem z_iload (F : Fx C D cl tys cc nL Ts own) {i : Nat} {x : Int32} (j : Nat) (hd : decode cc pc = .ok (.iload i, 2)) (hl0 : lv[j]? = some (i, .int x)) (k : Go C R D cl nL kc ns (ws) (pc + 2) (lv) (.int x :: st)) : Go C R D cl nL kc ns (ws) (pc) (lv) (st) := by
  obtain ⟨p, l, e, s, m, args, below, meth, c, Q, A, H0⟩ := C
  obtain ⟨⟨hx, hb, hml, hown, hts⟩, hK, hA, hlk0⟩ := F
  intro H locs ls hP hD hS hl
  exact lv_iload hx hb hd (lv_at hl j hl0) (k H locs ls hP hD hS hl)
theorem z_lload_n (F : Fx C D cl tys cc nL Ts own) {i : Fin 4} {x : Int64} (j : Nat) (hd : decode cc pc = .ok (.lload_n i, 1)) (hl0 : lv[j]? = some ((i : Nat), .long x)) (k : Go C R D cl nL kc ns (ws) (pc + 1) (lv) (.long x :: st)) : Go C R D cl nL kc ns (ws) (pc) (lv) (st) := by
  obtain ⟨p, l, e, s, m, args, below, meth, c, Q, A, H0⟩ := C
  obtain ⟨⟨hx, hb, hml, hown, hts⟩, hK, hA, hlk0⟩ := F
  intro H locs ls hP hD hS hl
  exact lv_lload_n hx hb hd rfl (lv_at hl j hl0) (k H locs ls hP hD hS hl)
theorem z_lload (F : Fx C D cl tys cc nL Ts own) {i : Nat} {x : Int64} (j : Nat) (hd : decode cc pc = .ok (.lload i, 2)) (hl0 : lv[j]? = some (i, .long x)) (k : Go C R D cl nL kc ns (ws) (pc + 2) (lv) (.long x :: st)) : Go C R D cl nL kc ns (ws) (pc) (lv) (st) := by
  obtain ⟨p, l, e, s, m, args, below, meth, c, Q, A, H0⟩ := C
  obtain ⟨⟨hx, hb, hml, hown, hts⟩, hK, hA, hlk0⟩ := F
  intro H locs ls hP hD hS hl
  exact lv_lload hx hb hd (lv_at hl j hl0) (k H locs ls hP hD hS hl)
theorem z_aload_n (F : Fx C D cl tys cc nL Ts own) {i : Fin 4} {x : Nat} (j : Nat) (hd : decode cc pc = .ok (.aload_n i, 1)) (hl0 : lv[j]? = some ((i : Nat), .ref x)) (k : Go C R D cl nL kc ns (ws) (pc + 1) (lv) (.ref x :: st)) : Go C R D cl nL kc ns (ws) (pc) (lv) (st) := by
  obtain ⟨p, l, e, s, m, args, below, meth, c, Q, A, H0⟩ := C
  obtain ⟨⟨hx, hb, hml, hown, hts⟩, hK, hA, hlk0⟩ := F
  intro H locs ls hP hD hS hl
  exact lv_aload_n hx hb hd rfl (lv_at hl j hl0) (k H locs ls hP hD hS hl)
theorem z_aload (F : Fx C D cl tys cc nL Ts own) {i : Nat} {x : Nat} (j : Nat) (hd : decode cc pc = .ok (.aload i, 2)) (hl0 : lv[j]? = some (i, .ref x)) (k : Go C R D cl nL kc ns (ws) (pc + 2) (lv) (.ref x :: st)) : Go C R D cl nL kc ns (ws) (pc) (lv) (st) := by
  obtain ⟨p, l, e, s, m, args, below, meth, c, Q, A, H0⟩ := C
  obtain ⟨⟨hx, hb, hml, hown, hts⟩, hK, hA, hlk0⟩ := F
  intro H locs ls hP hD hS hl
  exact lv_aload hx hb hd (lv_at hl j hl0) (k H locs ls hP hD hS hl)
theorem z_istore_n (F : Fx C D cl tys cc nL Ts own) {i : Fin 4} {x : Int32} {lv' : List (Nat × Value)} (hd : decode cc pc = .ok (.istore_n i, 1)) (hn : (i : Nat) < nL) (hl0 : ((i : Nat), Value.int x) :: lv.filter (fun q => !(q.1 == (i : Nat)) && !(q.1 + 1 == (i : Nat) && q.2.category == 2)) = lv') (k : Go C R D cl nL kc ns (ws) (pc + 1) (lv') (st)) : Go C R D cl nL kc ns (ws) (pc) (lv) (.int x :: st) := by
  obtain ⟨p, l, e, s, m, args, below, meth, c, Q, A, H0⟩ := C
  obtain ⟨⟨hx, hb, hml, hown, hts⟩, hK, hA, hlk0⟩ := F
  intro H locs ls hP hD hS hl
  exact lv_istore_n hx hb hd rfl hl hn hl0 (fun ls hl => k H locs ls hP hD hS hl)
theorem z_istore (F : Fx C D cl tys cc nL Ts own) {i : Nat} {x : Int32} {lv' : List (Nat × Value)} (hd : decode cc pc = .ok (.istore i, 2)) (hn : i < nL) (hl0 : (i, Value.int x) :: lv.filter (fun q => !(q.1 == i) && !(q.1 + 1 == i && q.2.category == 2)) = lv') (k : Go C R D cl nL kc ns (ws) (pc + 2) (lv') (st)) : Go C R D cl nL kc ns (ws) (pc) (lv) (.int x :: st) := by
  obtain ⟨p, l, e, s, m, args, below, meth, c, Q, A, H0⟩ := C
  obtain ⟨⟨hx, hb, hml, hown, hts⟩, hK, hA, hlk0⟩ := F
  intro H locs ls hP hD hS hl
  exact lv_istore hx hb hd hl hn hl0 (fun ls hl => k H locs ls hP hD hS hl)
theorem z_astore_n (F : Fx C D cl tys cc nL Ts own) {i : Fin 4} {x : Nat} {lv' : List (Nat × Value)} (hd : decode cc pc = .ok (.astore_n i, 1)) (hn : (i : Nat) < nL) (hl0 : ((i : Nat), Value.ref x) :: lv.filter (fun q => !(q.1 == (i : Nat)) && !(q.1 + 1 == (i : Nat) && q.2.category == 2)) = lv') (k : Go C R D cl nL kc ns (ws) (pc + 1) (lv') (st)) : Go C R D cl nL kc ns (ws) (pc) (lv) (.ref x :: st) := by
  obtain ⟨p, l, e, s, m, args, below, meth, c, Q, A, H0⟩ := C
  obtain ⟨⟨hx, hb, hml, hown, hts⟩, hK, hA, hlk0⟩ := F
  intro H locs ls hP hD hS hl
  exact lv_astore_n hx hb hd rfl hl hn hl0 (fun ls hl => k H locs ls hP hD hS hl)
theorem z_astore (F : Fx C D cl tys cc nL Ts own) {i : Nat} {x : Nat} {lv' : List (Nat × Value)} (hd : decode cc pc = .ok (.astore i, 2)) (hn : i < nL) (hl0 : (i, Value.ref x) :: lv.filter (fun q => !(q.1 == i) && !(q.1 + 1 == i && q.2.category == 2)) = lv') (k : Go C R D cl nL kc ns (ws) (pc + 2) (lv') (st)) : Go C R D cl nL kc ns (ws) (pc) (lv) (.ref x :: st) := by
  obtain ⟨p, l, e, s, m, args, below, meth, c, Q, A, H0⟩ := C
  obtain ⟨⟨hx, hb, hml, hown, hts⟩, hK, hA, hlk0⟩ := F
  intro H locs ls hP hD hS hl
  exact lv_astore hx hb hd hl hn hl0 (fun ls hl => k H locs ls hP hD hS hl)
theorem z_iinc (F : Fx C D cl tys cc nL Ts own) {i : Nat} {n z : Int} {lv' : List (Nat × Value)} (j : Nat) (hd : decode cc pc = .ok (.iinc i n, 3)) (hj : lv[j]? = some (i, .int (iZ z))) (hn : i < nL) (hl0 : (i, Value.int (iZ (z + n))) :: lv.filter (fun q => !(q.1 == i) && !(q.1 + 1 == i && q.2.category == 2)) = lv') (k : Go C R D cl nL kc ns (ws) (pc + 3) (lv') (st)) : Go C R D cl nL kc ns (ws) (pc) (lv) (st) := by
  obtain ⟨p, l, e, s, m, args, below, meth, c, Q, A, H0⟩ := C
  obtain ⟨⟨hx, hb, hml, hown, hts⟩, hK, hA, hlk0⟩ := F
  intro H locs ls hP hD hS hl
  exact lv_iinc (v := iZ (z + n)) hx hb hd hl hj (iZ_add z n) hn hl0 (fun ls hl => k H locs ls hP hD hS hl)
theorem z_iadd (F : Fx C D cl tys cc nL Ts own) {a b : Int} (hd : decode cc pc = .ok (.iadd, 1)) (k : Go C R D cl nL kc ns (ws) (pc + 1) (lv) (.int (iZ (a + b)) :: st)) : Go C R D cl nL kc ns (ws) (pc) (lv) (.int (iZ b) :: .int (iZ a) :: st) := by
  obtain ⟨p, l, e, s, m, args, below, meth, c, Q, A, H0⟩ := C
  obtain ⟨⟨hx, hb, hml, hown, hts⟩, hK, hA, hlk0⟩ := F
  intro H locs ls hP hD hS hl
  refine lv_iadd hx hb hd ?_
  rw [iZ_add]
  exact k H locs ls hP hD hS hl
theorem z_isub (F : Fx C D cl tys cc nL Ts own) {a b : Int} (hd : decode cc pc = .ok (.isub, 1)) (k : Go C R D cl nL kc ns (ws) (pc + 1) (lv) (.int (iZ (a - b)) :: st)) : Go C R D cl nL kc ns (ws) (pc) (lv) (.int (iZ b) :: .int (iZ a) :: st) := by
  obtain ⟨p, l, e, s, m, args, below, meth, c, Q, A, H0⟩ := C
  obtain ⟨⟨hx, hb, hml, hown, hts⟩, hK, hA, hlk0⟩ := F
  intro H locs ls hP hD hS hl
  refine lv_isub hx hb hd ?_
  rw [iZ_sub]
  exact k H locs ls hP hD hS hl
theorem z_imul (F : Fx C D cl tys cc nL Ts own) {a b : Int} (hd : decode cc pc = .ok (.imul, 1)) (k : Go C R D cl nL kc ns (ws) (pc + 1) (lv) (.int (iZ (a * b)) :: st)) : Go C R D cl nL kc ns (ws) (pc) (lv) (.int (iZ b) :: .int (iZ a) :: st) := by
  obtain ⟨p, l, e, s, m, args, below, meth, c, Q, A, H0⟩ := C
  obtain ⟨⟨hx, hb, hml, hown, hts⟩, hK, hA, hlk0⟩ := F
  intro H locs ls hP hD hS hl
  refine lv_imul hx hb hd ?_
  rw [iZ_mul]
  exact k H locs ls hP hD hS hl
theorem z_ineg (F : Fx C D cl tys cc nL Ts own) {a : Int} (hd : decode cc pc = .ok (.ineg, 1)) (k : Go C R D cl nL kc ns (ws) (pc + 1) (lv) (.int (iZ (-a)) :: st)) : Go C R D cl nL kc ns (ws) (pc) (lv) (.int (iZ a) :: st) := by
  obtain ⟨p, l, e, s, m, args, below, meth, c, Q, A, H0⟩ := C
  obtain ⟨⟨hx, hb, hml, hown, hts⟩, hK, hA, hlk0⟩ := F
  intro H locs ls hP hD hS hl
  refine lv_ineg hx hb hd ?_
  rw [iZ_neg]
  exact k H locs ls hP hD hS hl
theorem z_idiv (F : Fx C D cl tys cc nL Ts own) {a b : Int} (hd : decode cc pc = .ok (.idiv, 1)) (ha : (-2147483648 ≤ a ∧ a ≤ 2147483647)) (hb0 : 0 < b ∧ b ≤ 2147483647) (k : Go C R D cl nL kc ns (ws) (pc + 1) (lv) (.int (iZ (a.tdiv b)) :: st)) : Go C R D cl nL kc ns (ws) (pc) (lv) (.int (iZ b) :: .int (iZ a) :: st) := by
  obtain ⟨p, l, e, s, m, args, below, meth, c, Q, A, H0⟩ := C
  obtain ⟨⟨hx, hb, hml, hown, hts⟩, hK, hA, hlk0⟩ := F
  intro H locs ls hP hD hS hl
  refine lv_idiv hx hb hd (fun q => ?_) ?_
  · have := (iZ_eq (a := b) (b := 0) ⟨⟨by omega, by omega⟩, by decide⟩).mp q
    omega
  · rw [iZ_div ha hb0]
    exact k H locs ls hP hD hS hl
theorem z_irem (F : Fx C D cl tys cc nL Ts own) {a b : Int} (hd : decode cc pc = .ok (.irem, 1)) (ha : (-2147483648 ≤ a ∧ a ≤ 2147483647)) (hb0 : 0 < b ∧ b ≤ 2147483647) (k : Go C R D cl nL kc ns (ws) (pc + 1) (lv) (.int (iZ (a.tmod b)) :: st)) : Go C R D cl nL kc ns (ws) (pc) (lv) (.int (iZ b) :: .int (iZ a) :: st) := by
  obtain ⟨p, l, e, s, m, args, below, meth, c, Q, A, H0⟩ := C
  obtain ⟨⟨hx, hb, hml, hown, hts⟩, hK, hA, hlk0⟩ := F
  intro H locs ls hP hD hS hl
  refine lv_irem hx hb hd (fun q => ?_) ?_
  · have := (iZ_eq (a := b) (b := 0) ⟨⟨by omega, by omega⟩, by decide⟩).mp q
    omega
  · rw [iZ_rem ha hb0]
    exact k H locs ls hP hD hS hl
theorem z_and255 (F : Fx C D cl tys cc nL Ts own) {a : Int} (hd : decode cc pc = .ok (.iand, 1)) (k : Go C R D cl nL kc ns (ws) (pc + 1) (lv) (.int (iZ (a % 256)) :: st)) : Go C R D cl nL kc ns (ws) (pc) (lv) (.int (iZ 255) :: .int (iZ a) :: st) := by
  obtain ⟨p, l, e, s, m, args, below, meth, c, Q, A, H0⟩ := C
  obtain ⟨⟨hx, hb, hml, hown, hts⟩, hK, hA, hlk0⟩ := F
  intro H locs ls hP hD hS hl
  refine lv_iand hx hb hd ?_
  rw [show iZ 255 = (255 : Int32) from rfl, iZ_and255]
  exact k H locs ls hP hD hS hl
theorem z_and15 (F : Fx C D cl tys cc nL Ts own) {a : Int} (hd : decode cc pc = .ok (.iand, 1)) (k : Go C R D cl nL kc ns (ws) (pc + 1) (lv) (.int (iZ (a % 16)) :: st)) : Go C R D cl nL kc ns (ws) (pc) (lv) (.int (iZ 15) :: .int (iZ a) :: st) := by
  obtain ⟨p, l, e, s, m, args, below, meth, c, Q, A, H0⟩ := C
  obtain ⟨⟨hx, hb, hml, hown, hts⟩, hK, hA, hlk0⟩ := F
  intro H locs ls hP hD hS hl
  refine lv_iand hx hb hd ?_
  rw [show iZ 15 = (15 : Int32) from rfl, iZ_and15]
  exact k H locs ls hP hD hS hl
theorem z_and1 (F : Fx C D cl tys cc nL Ts own) {a : Int} (hd : decode cc pc = .ok (.iand, 1)) (k : Go C R D cl nL kc ns (ws) (pc + 1) (lv) (.int (iZ (a % 2)) :: st)) : Go C R D cl nL kc ns (ws) (pc) (lv) (.int (iZ 1) :: .int (iZ a) :: st) := by
  obtain ⟨p, l, e, s, m, args, below, meth, c, Q, A, H0⟩ := C
  obtain ⟨⟨hx, hb, hml, hown, hts⟩, hK, hA, hlk0⟩ := F
  intro H locs ls hP hD hS hl
  refine lv_iand hx hb hd ?_
  rw [show iZ 1 = (1 : Int32) from rfl, iZ_and1]
  exact k H locs ls hP hD hS hl
theorem z_iand (F : Fx C D cl tys cc nL Ts own) {x y : Int32} (hd : decode cc pc = .ok (.iand, 1)) (k : ∀ z : Int, (-2147483648 ≤ z ∧ z ≤ 2147483647) → x &&& y = iZ z → Go C R D cl nL kc ns (ws) (pc + 1) (lv) (.int (iZ z) :: st)) : Go C R D cl nL kc ns (ws) (pc) (lv) (.int y :: .int x :: st) := by
  obtain ⟨p, l, e, s, m, args, below, meth, c, Q, A, H0⟩ := C
  obtain ⟨⟨hx, hb, hml, hown, hts⟩, hK, hA, hlk0⟩ := F
  intro H locs ls hP hD hS hl
  obtain ⟨z, h1, h2⟩ := iZ_ex (x &&& y)
  refine lv_iand hx hb hd ?_
  rw [h2]
  exact k z h1 h2 H locs ls hP hD hS hl
theorem z_ior (F : Fx C D cl tys cc nL Ts own) {x y : Int32} (hd : decode cc pc = .ok (.ior, 1)) (k : ∀ z : Int, (-2147483648 ≤ z ∧ z ≤ 2147483647) → x ||| y = iZ z → Go C R D cl nL kc ns (ws) (pc + 1) (lv) (.int (iZ z) :: st)) : Go C R D cl nL kc ns (ws) (pc) (lv) (.int y :: .int x :: st) := by
  obtain ⟨p, l, e, s, m, args, below, meth, c, Q, A, H0⟩ := C
  obtain ⟨⟨hx, hb, hml, hown, hts⟩, hK, hA, hlk0⟩ := F
  intro H locs ls hP hD hS hl
  obtain ⟨z, h1, h2⟩ := iZ_ex (x ||| y)
  refine lv_ior hx hb hd ?_
  rw [h2]
  exact k z h1 h2 H locs ls hP hD hS hl
theorem z_ixor (F : Fx C D cl tys cc nL Ts own) {x y : Int32} (hd : decode cc pc = .ok (.ixor, 1)) (k : ∀ z : Int, (-2147483648 ≤ z ∧ z ≤ 2147483647) → x ^^^ y = iZ z → Go C R D cl nL kc ns (ws) (pc + 1) (lv) (.int (iZ z) :: st)) : Go C R D cl nL kc ns (ws) (pc) (lv) (.int y :: .int x :: st) := by
  obtain ⟨p, l, e, s, m, args, below, meth, c, Q, A, H0⟩ := C
  obtain ⟨⟨hx, hb, hml, hown, hts⟩, hK, hA, hlk0⟩ := F
  intro H locs ls hP hD hS hl
  obtain ⟨z, h1, h2⟩ := iZ_ex (x ^^^ y)
  refine lv_ixor hx hb hd ?_
  rw [h2]
  exact k z h1 h2 H locs ls hP hD hS hl
theorem z_ishl (F : Fx C D cl tys cc nL Ts own) {x y : Int32} (hd : decode cc pc = .ok (.ishl, 1)) (k : ∀ z : Int, (-2147483648 ≤ z ∧ z ≤ 2147483647) → x <<< (y &&& 31) = iZ z → Go C R D cl nL kc ns (ws) (pc + 1) (lv) (.int (iZ z) :: st)) : Go C R D cl nL kc ns (ws) (pc) (lv) (.int y :: .int x :: st) := by
  obtain ⟨p, l, e, s, m, args, below, meth, c, Q, A, H0⟩ := C
  obtain ⟨⟨hx, hb, hml, hown, hts⟩, hK, hA, hlk0⟩ := F
  intro H locs ls hP hD hS hl
  obtain ⟨z, h1, h2⟩ := iZ_ex (x <<< (y &&& 31))
  refine lv_ishl hx hb hd ?_
  rw [h2]
  exact k z h1 h2 H locs ls hP hD hS hl
theorem z_ishr (F : Fx C D cl tys cc nL Ts own) {x y : Int32} (hd : decode cc pc = .ok (.ishr, 1)) (k : ∀ z : Int, (-2147483648 ≤ z ∧ z ≤ 2147483647) → x >>> (y &&& 31) = iZ z → Go C R D cl nL kc ns (ws) (pc + 1) (lv) (.int (iZ z) :: st)) : Go C R D cl nL kc ns (ws) (pc) (lv) (.int y :: .int x :: st) := by
  obtain ⟨p, l, e, s, m, args, below, meth, c, Q, A, H0⟩ := C
  obtain ⟨⟨hx, hb, hml, hown, hts⟩, hK, hA, hlk0⟩ := F
  intro H locs ls hP hD hS hl
  obtain ⟨z, h1, h2⟩ := iZ_ex (x >>> (y &&& 31))
  refine lv_ishr hx hb hd ?_
  rw [h2]
  exact k z h1 h2 H locs ls hP hD hS hl
theorem z_iushr (F : Fx C D cl tys cc nL Ts own) {x y : Int32} (hd : decode cc pc = .ok (.iushr, 1)) (k : ∀ z : Int, (-2147483648 ≤ z ∧ z ≤ 2147483647) → (x.toUInt32 >>> (y.toUInt32 &&& Int32.toUInt32 31)).toInt32 = iZ z → Go C R D cl nL kc ns (ws) (pc + 1) (lv) (.int (iZ z) :: st)) : Go C R D cl nL kc ns (ws) (pc) (lv) (.int y :: .int x :: st) := by
  obtain ⟨p, l, e, s, m, args, below, meth, c, Q, A, H0⟩ := C
  obtain ⟨⟨hx, hb, hml, hown, hts⟩, hK, hA, hlk0⟩ := F
  intro H locs ls hP hD hS hl
  obtain ⟨z, h1, h2⟩ := iZ_ex ((x.toUInt32 >>> (y.toUInt32 &&& Int32.toUInt32 31)).toInt32)
  exact lv_iushr hx hb hd h2 (k z h1 h2 H locs ls hP hD hS hl)
theorem z_l2i (F : Fx C D cl tys cc nL Ts own) {x : Int64} (hd : decode cc pc = .ok (.l2i, 1)) (k : ∀ z : Int, (-2147483648 ≤ z ∧ z ≤ 2147483647) → x.toInt32 = iZ z → Go C R D cl nL kc ns (ws) (pc + 1) (lv) (.int (iZ z) :: st)) : Go C R D cl nL kc ns (ws) (pc) (lv) (.long x :: st) := by
  obtain ⟨p, l, e, s, m, args, below, meth, c, Q, A, H0⟩ := C
  obtain ⟨⟨hx, hb, hml, hown, hts⟩, hK, hA, hlk0⟩ := F
  intro H locs ls hP hD hS hl
  obtain ⟨z, h1, h2⟩ := iZ_ex (x.toInt32)
  exact lv_l2i hx hb hd h2 (k z h1 h2 H locs ls hP hD hS hl)
theorem z_lcmp (F : Fx C D cl tys cc nL Ts own) {x y : Int64} (hd : decode cc pc = .ok (.lcmp, 1)) (k : ∀ z : Int, (-2147483648 ≤ z ∧ z ≤ 2147483647) → lg_cmp x y = iZ z → Go C R D cl nL kc ns (ws) (pc + 1) (lv) (.int (iZ z) :: st)) : Go C R D cl nL kc ns (ws) (pc) (lv) (.long y :: .long x :: st) := by
  obtain ⟨p, l, e, s, m, args, below, meth, c, Q, A, H0⟩ := C
  obtain ⟨⟨hx, hb, hml, hown, hts⟩, hK, hA, hlk0⟩ := F
  intro H locs ls hP hD hS hl
  obtain ⟨z, h1, h2⟩ := iZ_ex (lg_cmp x y)
  refine W.lcmp hx hb hd ?_
  rw [h2]
  exact k z h1 h2 H locs ls hP hD hS hl
theorem z_i2b (F : Fx C D cl tys cc nL Ts own) {a : Int} (hd : decode cc pc = .ok (.i2b, 1)) (k : Go C R D cl nL kc ns (ws) (pc + 1) (lv) (.int (iZ (a.bmod 256)) :: st)) : Go C R D cl nL kc ns (ws) (pc) (lv) (.int (iZ a) :: st) := by
  obtain ⟨p, l, e, s, m, args, below, meth, c, Q, A, H0⟩ := C
  obtain ⟨⟨hx, hb, hml, hown, hts⟩, hK, hA, hlk0⟩ := F
  intro H locs ls hP hD hS hl
  exact lv_i2b hx hb hd (iZ_b a) (k H locs ls hP hD hS hl)
theorem z_i2l (F : Fx C D cl tys cc nL Ts own) {x : Int32} (hd : decode cc pc = .ok (.i2l, 1)) (k : Go C R D cl nL kc ns (ws) (pc + 1) (lv) (.long x.toInt64 :: st)) : Go C R D cl nL kc ns (ws) (pc) (lv) (.int x :: st) := by
  obtain ⟨p, l, e, s, m, args, below, meth, c, Q, A, H0⟩ := C
  obtain ⟨⟨hx, hb, hml, hown, hts⟩, hK, hA, hlk0⟩ := F
  intro H locs ls hP hD hS hl
  exact lv_i2l hx hb hd rfl (k H locs ls hP hD hS hl)
theorem z_ladd (F : Fx C D cl tys cc nL Ts own) {x y : Int64} (hd : decode cc pc = .ok (.ladd, 1)) (k : Go C R D cl nL kc ns (ws) (pc + 1) (lv) (.long (x + y) :: st)) : Go C R D cl nL kc ns (ws) (pc) (lv) (.long y :: .long x :: st) := by
  obtain ⟨p, l, e, s, m, args, below, meth, c, Q, A, H0⟩ := C
  obtain ⟨⟨hx, hb, hml, hown, hts⟩, hK, hA, hlk0⟩ := F
  intro H locs ls hP hD hS hl
  exact lv_ladd hx hb hd (k H locs ls hP hD hS hl)
theorem z_lsub (F : Fx C D cl tys cc nL Ts own) {x y : Int64} (hd : decode cc pc = .ok (.lsub, 1)) (k : Go C R D cl nL kc ns (ws) (pc + 1) (lv) (.long (x - y) :: st)) : Go C R D cl nL kc ns (ws) (pc) (lv) (.long y :: .long x :: st) := by
  obtain ⟨p, l, e, s, m, args, below, meth, c, Q, A, H0⟩ := C
  obtain ⟨⟨hx, hb, hml, hown, hts⟩, hK, hA, hlk0⟩ := F
  intro H locs ls hP hD hS hl
  exact lv_lsub hx hb hd (k H locs ls hP hD hS hl)
theorem z_lmul (F : Fx C D cl tys cc nL Ts own) {x y : Int64} (hd : decode cc pc = .ok (.lmul, 1)) (k : Go C R D cl nL kc ns (ws) (pc + 1) (lv) (.long (x * y) :: st)) : Go C R D cl nL kc ns (ws) (pc) (lv) (.long y :: .long x :: st) := by
  obtain ⟨p, l, e, s, m, args, below, meth, c, Q, A, H0⟩ := C
  obtain ⟨⟨hx, hb, hml, hown, hts⟩, hK, hA, hlk0⟩ := F
  intro H locs ls hP hD hS hl
  exact lv_lmul hx hb hd (k H locs ls hP hD hS hl)
theorem z_land (F : Fx C D cl tys cc nL Ts own) {x y : Int64} (hd : decode cc pc = .ok (.land, 1)) (k : Go C R D cl nL kc ns (ws) (pc + 1) (lv) (.long (x &&& y) :: st)) : Go C R D cl nL kc ns (ws) (pc) (lv) (.long y :: .long x :: st) := by
  obtain ⟨p, l, e, s, m, args, below, meth, c, Q, A, H0⟩ := C
  obtain ⟨⟨hx, hb, hml, hown, hts⟩, hK, hA, hlk0⟩ := F
  intro H locs ls hP hD hS hl
  exact lv_land hx hb hd (k H locs ls hP hD hS hl)
theorem z_lor (F : Fx C D cl tys cc nL Ts own) {x y : Int64} (hd : decode cc pc = .ok (.lor, 1)) (k : Go C R D cl nL kc ns (ws) (pc + 1) (lv) (.long (x ||| y) :: st)) : Go C R D cl nL kc ns (ws) (pc) (lv) (.long y :: .long x :: st) := by
  obtain ⟨p, l, e, s, m, args, below, meth, c, Q, A, H0⟩ := C
  obtain ⟨⟨hx, hb, hml, hown, hts⟩, hK, hA, hlk0⟩ := F
  intro H locs ls hP hD hS hl
  exact lv_lor hx hb hd (k H locs ls hP hD hS hl)
theorem z_lxor (F : Fx C D cl tys cc nL Ts own) {x y : Int64} (hd : decode cc pc = .ok (.lxor, 1)) (k : Go C R D cl nL kc ns (ws) (pc + 1) (lv) (.long (x ^^^ y) :: st)) : Go C R D cl nL kc ns (ws) (pc) (lv) (.long y :: .long x :: st) := by
  obtain ⟨p, l, e, s, m, args, below, meth, c, Q, A, H0⟩ := C
  obtain ⟨⟨hx, hb, hml, hown, hts⟩, hK, hA, hlk0⟩ := F
  intro H locs ls hP hD hS hl
  exact lv_lxor hx hb hd (k H locs ls hP hD hS hl)
theorem z_lrem (F : Fx C D cl tys cc nL Ts own) {x y : Int64} (hd : decode cc pc = .ok (.lrem, 1)) (hne : ¬ y = 0) (k : Go C R D cl nL kc ns (ws) (pc + 1) (lv) (.long (x - x / y * y) :: st)) : Go C R D cl nL kc ns (ws) (pc) (lv) (.long y :: .long x :: st) := by
  obtain ⟨p, l, e, s, m, args, below, meth, c, Q, A, H0⟩ := C
  obtain ⟨⟨hx, hb, hml, hown, hts⟩, hK, hA, hlk0⟩ := F
  intro H locs ls hP hD hS hl
  exact lv_lrem hx hb hd hne (k H locs ls hP hD hS hl)
theorem z_lushr (F : Fx C D cl tys cc nL Ts own) {x : Int64} {y : Int32} (hd : decode cc pc = .ok (.lushr, 1)) (k : Go C R D cl nL kc ns (ws) (pc + 1) (lv) (.long ((x.toUInt64 >>> (y.toInt64.toUInt64 &&& Int64.toUInt64 63)).toInt64) :: st)) : Go C R D cl nL kc ns (ws) (pc) (lv) (.int y :: .long x :: st) := by
  obtain ⟨p, l, e, s, m, args, below, meth, c, Q, A, H0⟩ := C
  obtain ⟨⟨hx, hb, hml, hown, hts⟩, hK, hA, hlk0⟩ := F
  intro H locs ls hP hD hS hl
  exact lv_lushr hx hb hd rfl (k H locs ls hP hD hS hl)
theorem z_lshl (F : Fx C D cl tys cc nL Ts own) {x : Int64} {y : Int32} (hd : decode cc pc = .ok (.lshl, 1)) (k : Go C R D cl nL kc ns (ws) (pc + 1) (lv) (.long (x <<< (y.toInt64 &&& 63)) :: st)) : Go C R D cl nL kc ns (ws) (pc) (lv) (.int y :: .long x :: st) := by
  obtain ⟨p, l, e, s, m, args, below, meth, c, Q, A, H0⟩ := C
  obtain ⟨⟨hx, hb, hml, hown, hts⟩, hK, hA, hlk0⟩ := F
  intro H locs ls hP hD hS hl
  exact lv_lshl hx hb hd rfl (k H locs ls hP hD hS hl)
theorem z_lshr (F : Fx C D cl tys cc nL Ts own) {x : Int64} {y : Int32} (hd : decode cc pc = .ok (.lshr, 1)) (k : Go C R D cl nL kc ns (ws) (pc + 1) (lv) (.long (x >>> (y.toInt64 &&& 63)) :: st)) : Go C R D cl nL kc ns (ws) (pc) (lv) (.int y :: .long x :: st) := by
  obtain ⟨p, l, e, s, m, args, below, meth, c, Q, A, H0⟩ := C
  obtain ⟨⟨hx, hb, hml, hown, hts⟩, hK, hA, hlk0⟩ := F
  intro H locs ls hP hD hS hl
  exact lv_lshr hx hb hd rfl (k H locs ls hP hD hS hl)
theorem z_lstore_n (F : Fx C D cl tys cc nL Ts own) {i : Fin 4} {x : Int64} {lv' : List (Nat × Value)} (hd : decode cc pc = .ok (.lstore_n i, 1)) (hn : (i : Nat) + 1 < nL) (hl0 : ((i : Nat), Value.long x) :: lv.filter (fun q => !(q.1 == (i : Nat)) && (!(q.1 == (i : Nat) + 1) && !(q.1 + 1 == (i : Nat) && q.2.category == 2))) = lv') (k : Go C R D cl nL kc ns (ws) (pc + 1) (lv') (st)) : Go C R D cl nL kc ns (ws) (pc) (lv) (.long x :: st) := by
  obtain ⟨p, l, e, s, m, args, below, meth, c, Q, A, H0⟩ := C
  obtain ⟨⟨hx, hb, hml, hown, hts⟩, hK, hA, hlk0⟩ := F
  intro H locs ls hP hD hS hl
  exact lv_lstore_n hx hb hd rfl hl hn hl0 (fun ls hl => k H locs ls hP hD hS hl)
theorem z_lstore (F : Fx C D cl tys cc nL Ts own) {i : Nat} {x : Int64} {lv' : List (Nat × Value)} (hd : decode cc pc = .ok (.lstore i, 2)) (hn : i + 1 < nL) (hl0 : (i, Value.long x) :: lv.filter (fun q => !(q.1 == i) && (!(q.1 == i + 1) && !(q.1 + 1 == i && q.2.category == 2))) = lv') (k : Go C R D cl nL kc ns (ws) (pc + 2) (lv') (st)) : Go C R D cl nL kc ns (ws) (pc) (lv) (.long x :: st) := by
  obtain ⟨p, l, e, s, m, args, below, meth, c, Q, A, H0⟩ := C
  obtain ⟨⟨hx, hb, hml, hown, hts⟩, hK, hA, hlk0⟩ := F
  intro H locs ls hP hD hS hl
  exact lv_lstore hx hb hd hl hn hl0 (fun ls hl => k H locs ls hP hD hS hl)
theorem z_dup (F : Fx C D cl tys cc nL Ts own) {v : Value} (hd : decode cc pc = .ok (.dup, 1)) (hv : v.category = 1) (k : Go C R D cl nL kc ns (ws) (pc + 1) (lv) (v :: v :: st)) : Go C R D cl nL kc ns (ws) (pc) (lv) (v :: st) := by
  obtain ⟨p, l, e, s, m, args, below, meth, c, Q, A, H0⟩ := C
  obtain ⟨⟨hx, hb, hml, hown, hts⟩, hK, hA, hlk0⟩ := F
  intro H locs ls hP hD hS hl
  exact lv_dup hx hb hd hv (k H locs ls hP hD hS hl)
theorem z_pop (F : Fx C D cl tys cc nL Ts own) {v : Value} (hd : decode cc pc = .ok (.pop, 1)) (hv : v.category = 1) (k : Go C R D cl nL kc ns (ws) (pc + 1) (lv) (st)) : Go C R D cl nL kc ns (ws) (pc) (lv) (v :: st) := by
  obtain ⟨p, l, e, s, m, args, below, meth, c, Q, A, H0⟩ := C
  obtain ⟨⟨hx, hb, hml, hown, hts⟩, hK, hA, hlk0⟩ := F
  intro H locs ls hP hD hS hl
  exact lv_pop hx hb hd hv (k H locs ls hP hD hS hl)
theorem z_dup2 (F : Fx C D cl tys cc nL Ts own) {v w : Value} (hd : decode cc pc = .ok (.dup2, 1)) (hv : v.category = 1) (hw : w.category = 1) (k : Go C R D cl nL kc ns (ws) (pc + 1) (lv) (v :: w :: v :: w :: st)) : Go C R D cl nL kc ns (ws) (pc) (lv) (v :: w :: st) := by
  obtain ⟨p, l, e, s, m, args, below, meth, c, Q, A, H0⟩ := C
  obtain ⟨⟨hx, hb, hml, hown, hts⟩, hK, hA, hlk0⟩ := F
  intro H locs ls hP hD hS hl
  exact lv_dup2_11 hx hb hd hv hw (k H locs ls hP hD hS hl)
theorem z_dup2l (F : Fx C D cl tys cc nL Ts own) {v : Value} (hd : decode cc pc = .ok (.dup2, 1)) (hv : v.category = 2) (k : Go C R D cl nL kc ns (ws) (pc + 1) (lv) (v :: v :: st)) : Go C R D cl nL kc ns (ws) (pc) (lv) (v :: st) := by
  obtain ⟨p, l, e, s, m, args, below, meth, c, Q, A, H0⟩ := C
  obtain ⟨⟨hx, hb, hml, hown, hts⟩, hK, hA, hlk0⟩ := F
  intro H locs ls hP hD hS hl
  exact lv_dup2_2 hx hb hd hv (k H locs ls hP hD hS hl)
theorem z_pop2l (F : Fx C D cl tys cc nL Ts own) {v : Value} (hd : decode cc pc = .ok (.pop2, 1)) (hv : v.category = 2) (k : Go C R D cl nL kc ns (ws) (pc + 1) (lv) (st)) : Go C R D cl nL kc ns (ws) (pc) (lv) (v :: st) := by
  obtain ⟨p, l, e, s, m, args, below, meth, c, Q, A, H0⟩ := C
  obtain ⟨⟨hx, hb, hml, hown, hts⟩, hK, hA, hlk0⟩ := F
  intro H locs ls hP hD hS hl
  exact lv_pop2_2 hx hb hd hv (k H locs ls hP hD hS hl)
theorem z_dup_x1 (F : Fx C D cl tys cc nL Ts own) {v w : Value} (hd : decode cc pc = .ok (.dup_x1, 1)) (hv : v.category = 1) (hw : w.category = 1) (k : Go C R D cl nL kc ns (ws) (pc + 1) (lv) (v :: w :: v :: st)) : Go C R D cl nL kc ns (ws) (pc) (lv) (v :: w :: st) := by
  obtain ⟨p, l, e, s, m, args, below, meth, c, Q, A, H0⟩ := C
  obtain ⟨⟨hx, hb, hml, hown, hts⟩, hK, hA, hlk0⟩ := F
  intro H locs ls hP hD hS hl
  exact lv_dup_x1 hx hb hd hv hw (k H locs ls hP hD hS hl)
theorem z_icmp_eq (F : Fx C D cl tys cc nL Ts own) {a b off : Int} (tgt : Nat) (hd : decode cc pc = .ok (.if_icmp .eq off, 3)) (ht : (pc : Int) + off = (tgt : Int)) (h : (-2147483648 ≤ a ∧ a ≤ 2147483647) ∧ (-2147483648 ≤ b ∧ b ≤ 2147483647)) (kt : a = b → Go C R D cl nL kc ns (ws) (tgt) (lv) (st)) (kf : ¬ a = b → Go C R D cl nL kc ns (ws) (pc + 3) (lv) (st)) : Go C R D cl nL kc ns (ws) (pc) (lv) (.int (iZ b) :: .int (iZ a) :: st) := by
  obtain ⟨p, l, e, s, m, args, below, meth, c, Q, A, H0⟩ := C
  obtain ⟨⟨hx, hb, hml, hown, hts⟩, hK, hA, hlk0⟩ := F
  intro H locs ls hP hD hS hl
  exact lv_icmp_eq hx hb hd ht (fun q => kt ((iZ_eq h).mp q) H locs ls hP hD hS hl) (fun q => kf (fun z => q ((iZ_eq h).mpr z)) H locs ls hP hD hS hl)
theorem z_if_eq (F : Fx C D cl tys cc nL Ts own) {a off : Int} (tgt : Nat) (hd : decode cc pc = .ok (.ifCond .eq off, 3)) (ht : (pc : Int) + off = (tgt : Int)) (h : (-2147483648 ≤ a ∧ a ≤ 2147483647)) (kt : a = 0 → Go C R D cl nL kc ns (ws) (tgt) (lv) (st)) (kf : ¬ a = 0 → Go C R D cl nL kc ns (ws) (pc + 3) (lv) (st)) : Go C R D cl nL kc ns (ws) (pc) (lv) (.int (iZ a) :: st) := by
  obtain ⟨p, l, e, s, m, args, below, meth, c, Q, A, H0⟩ := C
  obtain ⟨⟨hx, hb, hml, hown, hts⟩, hK, hA, hlk0⟩ := F
  intro H locs ls hP hD hS hl
  exact lv_if_eq hx hb hd ht (fun q => kt ((iZ_eq (b := 0) ⟨h, by decide⟩).mp q) H locs ls hP hD hS hl) (fun q => kf (fun z => q ((iZ_eq (b := 0) ⟨h, by decide⟩).mpr z)) H locs ls hP hD hS hl)
theorem z_icmp_ne (F : Fx C D cl tys cc nL Ts own) {a b off : Int} (tgt : Nat) (hd : decode cc pc = .ok (.if_icmp .ne off, 3)) (ht : (pc : Int) + off = (tgt : Int)) (h : (-2147483648 ≤ a ∧ a ≤ 2147483647) ∧ (-2147483648 ≤ b ∧ b ≤ 2147483647)) (kt : ¬ a = b → Go C R D cl nL kc ns (ws) (tgt) (lv) (st)) (kf : a = b → Go C R D cl nL kc ns (ws) (pc + 3) (lv) (st)) : Go C R D cl nL kc ns (ws) (pc) (lv) (.int (iZ b) :: .int (iZ a) :: st) := by
  obtain ⟨p, l, e, s, m, args, below, meth, c, Q, A, H0⟩ := C
  obtain ⟨⟨hx, hb, hml, hown, hts⟩, hK, hA, hlk0⟩ := F
  intro H locs ls hP hD hS hl
  exact lv_icmp_ne hx hb hd ht (fun q => kt (fun z => q ((iZ_eq h).mpr z)) H locs ls hP hD hS hl) (fun q => kf ((iZ_eq h).mp q) H locs ls hP hD hS hl)
theorem z_if_ne (F : Fx C D cl tys cc nL Ts own) {a off : Int} (tgt : Nat) (hd : decode cc pc = .ok (.ifCond .ne off, 3)) (ht : (pc : Int) + off = (tgt : Int)) (h : (-2147483648 ≤ a ∧ a ≤ 2147483647)) (kt : ¬ a = 0 → Go C R D cl nL kc ns (ws) (tgt) (lv) (st)) (kf : a = 0 → Go C R D cl nL kc ns (ws) (pc + 3) (lv) (st)) : Go C R D cl nL kc ns (ws) (pc) (lv) (.int (iZ a) :: st) := by
  obtain ⟨p, l, e, s, m, args, below, meth, c, Q, A, H0⟩ := C
  obtain ⟨⟨hx, hb, hml, hown, hts⟩, hK, hA, hlk0⟩ := F
  intro H locs ls hP hD hS hl
  exact lv_if_ne hx hb hd ht (fun q => kt (fun z => q ((iZ_eq (b := 0) ⟨h, by decide⟩).mpr z)) H locs ls hP hD hS hl) (fun q => kf ((iZ_eq (b := 0) ⟨h, by decide⟩).mp q) H locs ls hP hD hS hl)
theorem z_icmp_lt (F : Fx C D cl tys cc nL Ts own) {a b off : Int} (tgt : Nat) (hd : decode cc pc = .ok (.if_icmp .lt off, 3)) (ht : (pc : Int) + off = (tgt : Int)) (h : (-2147483648 ≤ a ∧ a ≤ 2147483647) ∧ (-2147483648 ≤ b ∧ b ≤ 2147483647)) (kt : a < b → Go C R D cl nL kc ns (ws) (tgt) (lv) (st)) (kf : ¬ a < b → Go C R D cl nL kc ns (ws) (pc + 3) (lv) (st)) : Go C R D cl nL kc ns (ws) (pc) (lv) (.int (iZ b) :: .int (iZ a) :: st) := by
  obtain ⟨p, l, e, s, m, args, below, meth, c, Q, A, H0⟩ := C
  obtain ⟨⟨hx, hb, hml, hown, hts⟩, hK, hA, hlk0⟩ := F
  intro H locs ls hP hD hS hl
  exact lv_icmp_lt hx hb hd ht (fun q => kt ((iZ_lt h).mp q) H locs ls hP hD hS hl) (fun q => kf (fun z => q ((iZ_lt h).mpr z)) H locs ls hP hD hS hl)
theorem z_if_lt (F : Fx C D cl tys cc nL Ts own) {a off : Int} (tgt : Nat) (hd : decode cc pc = .ok (.ifCond .lt off, 3)) (ht : (pc : Int) + off = (tgt : Int)) (h : (-2147483648 ≤ a ∧ a ≤ 2147483647)) (kt : a < 0 → Go C R D cl nL kc ns (ws) (tgt) (lv) (st)) (kf : ¬ a < 0 → Go C R D cl nL kc ns (ws) (pc + 3) (lv) (st)) : Go C R D cl nL kc ns (ws) (pc) (lv) (.int (iZ a) :: st) := by
  obtain ⟨p, l, e, s, m, args, below, meth, c, Q, A, H0⟩ := C
  obtain ⟨⟨hx, hb, hml, hown, hts⟩, hK, hA, hlk0⟩ := F
  intro H locs ls hP hD hS hl
  exact lv_if_lt hx hb hd ht (fun q => kt ((iZ_lt (b := 0) ⟨h, by decide⟩).mp q) H locs ls hP hD hS hl) (fun q => kf (fun z => q ((iZ_lt (b := 0) ⟨h, by decide⟩).mpr z)) H locs ls hP hD hS hl)
theorem z_icmp_ge (F : Fx C D cl tys cc nL Ts own) {a b off : Int} (tgt : Nat) (hd : decode cc pc = .ok (.if_icmp .ge off, 3)) (ht : (pc : Int) + off = (tgt : Int)) (h : (-2147483648 ≤ a ∧ a ≤ 2147483647) ∧ (-2147483648 ≤ b ∧ b ≤ 2147483647)) (kt : b ≤ a → Go C R D cl nL kc ns (ws) (tgt) (lv) (st)) (kf : ¬ b ≤ a → Go C R D cl nL kc ns (ws) (pc + 3) (lv) (st)) : Go C R D cl nL kc ns (ws) (pc) (lv) (.int (iZ b) :: .int (iZ a) :: st) := by
  obtain ⟨p, l, e, s, m, args, below, meth, c, Q, A, H0⟩ := C
  obtain ⟨⟨hx, hb, hml, hown, hts⟩, hK, hA, hlk0⟩ := F
  intro H locs ls hP hD hS hl
  exact lv_icmp_ge hx hb hd ht (fun q => kt ((iZ_le ⟨h.2, h.1⟩).mp q) H locs ls hP hD hS hl) (fun q => kf (fun z => q ((iZ_le ⟨h.2, h.1⟩).mpr z)) H locs ls hP hD hS hl)
theorem z_if_ge (F : Fx C D cl tys cc nL Ts own) {a off : Int} (tgt : Nat) (hd : decode cc pc = .ok (.ifCond .ge off, 3)) (ht : (pc : Int) + off = (tgt : Int)) (h : (-2147483648 ≤ a ∧ a ≤ 2147483647)) (kt : 0 ≤ a → Go C R D cl nL kc ns (ws) (tgt) (lv) (st)) (kf : ¬ 0 ≤ a → Go C R D cl nL kc ns (ws) (pc + 3) (lv) (st)) : Go C R D cl nL kc ns (ws) (pc) (lv) (.int (iZ a) :: st) := by
  obtain ⟨p, l, e, s, m, args, below, meth, c, Q, A, H0⟩ := C
  obtain ⟨⟨hx, hb, hml, hown, hts⟩, hK, hA, hlk0⟩ := F
  intro H locs ls hP hD hS hl
  exact lv_if_ge hx hb hd ht (fun q => kt ((iZ_le (a := 0) ⟨by decide, h⟩).mp q) H locs ls hP hD hS hl) (fun q => kf (fun z => q ((iZ_le (a := 0) ⟨by decide, h⟩).mpr z)) H locs ls hP hD hS hl)
theorem z_icmp_gt (F : Fx C D cl tys cc nL Ts own) {a b off : Int} (tgt : Nat) (hd : decode cc pc = .ok (.if_icmp .gt off, 3)) (ht : (pc : Int) + off = (tgt : Int)) (h : (-2147483648 ≤ a ∧ a ≤ 2147483647) ∧ (-2147483648 ≤ b ∧ b ≤ 2147483647)) (kt : b < a → Go C R D cl nL kc ns (ws) (tgt) (lv) (st)) (kf : ¬ b < a → Go C R D cl nL kc ns (ws) (pc + 3) (lv) (st)) : Go C R D cl nL kc ns (ws) (pc) (lv) (.int (iZ b) :: .int (iZ a) :: st) := by
  obtain ⟨p, l, e, s, m, args, below, meth, c, Q, A, H0⟩ := C
  obtain ⟨⟨hx, hb, hml, hown, hts⟩, hK, hA, hlk0⟩ := F
  intro H locs ls hP hD hS hl
  exact lv_icmp_gt hx hb hd ht (fun q => kt ((iZ_lt ⟨h.2, h.1⟩).mp q) H locs ls hP hD hS hl) (fun q => kf (fun z => q ((iZ_lt ⟨h.2, h.1⟩).mpr z)) H locs ls hP hD hS hl)
theorem z_if_gt (F : Fx C D cl tys cc nL Ts own) {a off : Int} (tgt : Nat) (hd : decode cc pc = .ok (.ifCond .gt off, 3)) (ht : (pc : Int) + off = (tgt : Int)) (h : (-2147483648 ≤ a ∧ a ≤ 2147483647)) (kt : 0 < a → Go C R D cl nL kc ns (ws) (tgt) (lv) (st)) (kf : ¬ 0 < a → Go C R D cl nL kc ns (ws) (pc + 3) (lv) (st)) : Go C R D cl nL kc ns (ws) (pc) (lv) (.int (iZ a) :: st) := by
  obtain ⟨p, l, e, s, m, args, below, meth, c, Q, A, H0⟩ := C
  obtain ⟨⟨hx, hb, hml, hown, hts⟩, hK, hA, hlk0⟩ := F
  intro H locs ls hP hD hS hl
  exact lv_if_gt hx hb hd ht (fun q => kt ((iZ_lt (a := 0) ⟨by decide, h⟩).mp q) H locs ls hP hD hS hl) (fun q => kf (fun z => q ((iZ_lt (a := 0) ⟨by decide, h⟩).mpr z)) H locs ls hP hD hS hl)
theorem z_icmp_le (F : Fx C D cl tys cc nL Ts own) {a b off : Int} (tgt : Nat) (hd : decode cc pc = .ok (.if_icmp .le off, 3)) (ht : (pc : Int) + off = (tgt : Int)) (h : (-2147483648 ≤ a ∧ a ≤ 2147483647) ∧ (-2147483648 ≤ b ∧ b ≤ 2147483647)) (kt : a ≤ b → Go C R D cl nL kc ns (ws) (tgt) (lv) (st)) (kf : ¬ a ≤ b → Go C R D cl nL kc ns (ws) (pc + 3) (lv) (st)) : Go C R D cl nL kc ns (ws) (pc) (lv) (.int (iZ b) :: .int (iZ a) :: st) := by
  obtain ⟨p, l, e, s, m, args, below, meth, c, Q, A, H0⟩ := C
  obtain ⟨⟨hx, hb, hml, hown, hts⟩, hK, hA, hlk0⟩ := F
  intro H locs ls hP hD hS hl
  exact lv_icmp_le hx hb hd ht (fun q => kt ((iZ_le h).mp q) H locs ls hP hD hS hl) (fun q => kf (fun z => q ((iZ_le h).mpr z)) H locs ls hP hD hS hl)
theorem z_if_le (F : Fx C D cl tys cc nL Ts own) {a off : Int} (tgt : Nat) (hd : decode cc pc = .ok (.ifCond .le off, 3)) (ht : (pc : Int) + off = (tgt : Int)) (h : (-2147483648 ≤ a ∧ a ≤ 2147483647)) (kt : a ≤ 0 → Go C R D cl nL kc ns (ws) (tgt) (lv) (st)) (kf : ¬ a ≤ 0 → Go C R D cl nL kc ns (ws) (pc + 3) (lv) (st)) : Go C R D cl nL kc ns (ws) (pc) (lv) (.int (iZ a) :: st) := by
  obtain ⟨p, l, e, s, m, args, below, meth, c, Q, A, H0⟩ := C
  obtain ⟨⟨hx, hb, hml, hown, hts⟩, hK, hA, hlk0⟩ := F
  intro H locs ls hP hD hS hl
  exact lv_if_le hx hb hd ht (fun q => kt ((iZ_le (b := 0) ⟨h, by decide⟩).mp q) H locs ls hP hD hS hl) (fun q => kf (fun z => q ((iZ_le (b := 0) ⟨h, by decide⟩).mpr z)) H locs ls hP hD hS hl)
theorem z_goto (F : Fx C D cl tys cc nL Ts own) {off : Int} (tgt : Nat) (hd : decode cc pc = .ok (.goto off, 3)) (ht : (pc : Int) + off = (tgt : Int)) (k : Go C R D cl nL kc ns (ws) (tgt) (lv) (st)) : Go C R D cl nL kc ns (ws) (pc) (lv) (st) := by
  obtain ⟨p, l, e, s, m, args, below, meth, c, Q, A, H0⟩ := C
  obtain ⟨⟨hx, hb, hml, hown, hts⟩, hK, hA, hlk0⟩ := F
  intro H locs ls hP hD hS hl
  exact lv_goto hx hb hd ht (k H locs ls hP hD hS hl)
theorem z_tableOut (F : Fx C D cl tys cc nL Ts own) {dflt lo hi a : Int} {offs : Array Int} {len : Nat} (tgt : Nat) (hd : decode cc pc = .ok (.tableswitch dflt lo hi offs, len)) (hr : (-2147483648 ≤ a ∧ a ≤ 2147483647)) (h : a < lo ∨ hi < a) (ht : (pc : Int) + dflt = (tgt : Int)) (k : Go C R D cl nL kc ns (ws) (tgt) (lv) (st)) : Go C R D cl nL kc ns (ws) (pc) (lv) (.int (iZ a) :: st) := by
  obtain ⟨p, l, e, s, m, args, below, meth, c, Q, A, H0⟩ := C
  obtain ⟨⟨hx, hb, hml, hown, hts⟩, hK, hA, hlk0⟩ := F
  intro H locs ls hP hD hS hl
  exact lv_tableOut hx hb hd (by rw [iZ_toInt hr]; exact h) ht (k H locs ls hP hD hS hl)
theorem z_tableIn (F : Fx C D cl tys cc nL Ts own) {dflt lo hi off : Int} (a : Int) {offs : Array Int} {len : Nat} (tgt : Nat) (hd : decode cc pc = .ok (.tableswitch dflt lo hi offs, len)) (hr : (-2147483648 ≤ a ∧ a ≤ 2147483647)) (h1 : ¬ a < lo) (h2 : ¬ hi < a) (ho : offs[(a - lo).toNat]? = some off) (ht : (pc : Int) + off = (tgt : Int)) (k : Go C R D cl nL kc ns (ws) (tgt) (lv) (st)) : Go C R D cl nL kc ns (ws) (pc) (lv) (.int (iZ a) :: st) := by
  obtain ⟨p, l, e, s, m, args, below, meth, c, Q, A, H0⟩ := C
  obtain ⟨⟨hx, hb, hml, hown, hts⟩, hK, hA, hlk0⟩ := F
  intro H locs ls hP hD hS hl
  exact lv_tableIn hx hb hd (by rw [iZ_toInt hr]; exact h1) (by rw [iZ_toInt hr]; exact h2) (by rw [iZ_toInt hr]; exact ho) ht (k H locs ls hP hD hS hl)
theorem z_perm (F : Fx C D cl tys cc nL Ts own) {ws' : va_W} (is : List Nat) (hn : va_nd is = true) (hs : is.map (fun i => ws[i]?) = ws'.map some) (k : Go C R D cl nL kc ns (ws') (pc) (lv) (st)) : Go C R D cl nL kc ns (ws) (pc) (lv) (st) := by
  obtain ⟨p, l, e, s, m, args, below, meth, c, Q, A, H0⟩ := C
  obtain ⟨⟨hx, hb, hml, hown, hts⟩, hK, hA, hlk0⟩ := F
  intro H locs ls hP hD hS hl
  exact k H locs ls (fun i q hq => by
      have h1 : (is.map (fun i => ws[i]?))[i]? = some (some q) := by rw [hs, List.getElem?_map, hq]; rfl
      rw [List.getElem?_map] at h1
      cases hi : is[i]? with
      | none => rw [hi] at h1; cases h1
      | some i2 => rw [hi] at h1; exact hP i2 q (Option.some.inj h1)) (hD.sub is hn hs) hS hl
theorem z_lv (F : Fx C D cl tys cc nL Ts own) {lv' : List (Nat × Value)} (is : List Nat) (hs : lv_pick lv is = lv') (k : Go C R D cl nL kc ns (ws) (pc) (lv') (st)) : Go C R D cl nL kc ns (ws) (pc) (lv) (st) := by
  obtain ⟨p, l, e, s, m, args, below, meth, c, Q, A, H0⟩ := C
  obtain ⟨⟨hx, hb, hml, hown, hts⟩, hK, hA, hlk0⟩ := F
  intro H locs ls hP hD hS hl
  exact k H locs ls hP hD hS (lv_sub hl is hs)
theorem z_widen (F : Fx C D cl tys cc nL Ts own) {k2 n2 : Nat} (h1 : kc ≤ k2) (h2 : ns ≤ n2) (k : Go C R D cl nL k2 n2 ws pc lv st) : Go C R D cl nL kc ns (ws) (pc) (lv) (st) := by
  obtain ⟨p, l, e, s, m, args, below, meth, c, Q, A, H0⟩ := C
  obtain ⟨⟨hx, hb, hml, hown, hts⟩, hK, hA, hlk0⟩ := F
  intro H locs ls hP hD hS hl
  exact W.widen h1 h2 (k H locs ls hP hD hS hl)
theorem z_iald (F : Fx C D cl tys cc nL Ts own) {a : Nat} {cA : ClassId} {n : Nat} {z : Nat → Int} {i : Int} (q0 : Nat) (ha : ws[q0]? = some (a, .inl (cA, n, .inl (zf z)))) (ht : tys[0]? = some (cA, .int)) (hd : decode cc pc = .ok (.iaload, 1)) (hn : n < 2147483648) (hi : 0 ≤ i ∧ i < n) (k : Go C R D cl nL kc ns (ws) (pc + 1) (lv) (.int (iZ (z i.toNat)) :: st)) : Go C R D cl nL kc ns (ws) (pc) (lv) (.int (iZ i) :: .ref a :: st) := by
  obtain ⟨p, l, e, s, m, args, below, meth, c, Q, A, H0⟩ := C
  obtain ⟨⟨hx, hb, hml, hown, hts⟩, hK, hA, hlk0⟩ := F
  intro H locs ls hP hD hS hl
  refine va_iald hx hb hK hP q0 0 ha ht (iZ_in hi hn) hd ?_
  rw [iZ_cl ⟨hi.1, by omega⟩]
  exact k H locs ls hP hD hS hl
theorem z_iast (F : Fx C D cl tys cc nL Ts own) {ws' : va_W} {a : Nat} {cA : ClassId} {n : Nat} {z : Nat → Int} {i v : Int} (q0 : Nat) (ha : ws[q0]? = some (a, .inl (cA, n, .inl (zf z)))) (ht : tys[0]? = some (cA, .int)) (hd : decode cc pc = .ok (.iastore, 1)) (hn : n < 2147483648) (hi : 0 ≤ i ∧ i < n) (hw : ws.set q0 (a, .inl (cA, n, .inl (zf (zu z i.toNat (v))))) = ws') (k : Go C R D cl nL kc ns (ws') (pc + 1) (lv) (st)) : Go C R D cl nL kc ns (ws) (pc) (lv) (.int (iZ v) :: .int (iZ i) :: .ref a :: st) := by
  obtain ⟨p, l, e, s, m, args, below, meth, c, Q, A, H0⟩ := C
  obtain ⟨⟨hx, hb, hml, hown, hts⟩, hK, hA, hlk0⟩ := F
  intro H locs ls hP hD hS hl
  refine va_iast hx hb hK hP hD hS q0 0 ha ht (iZ_in hi hn) hd (fun H locs hP hD hS => ?_)
  rw [iZ_cl ⟨hi.1, by omega⟩, zf_upd] at hP hD
  rw [hw] at hP hD
  exact k H locs ls hP hD hS hl
theorem z_bald (F : Fx C D cl tys cc nL Ts own) {a : Nat} {cA : ClassId} {n : Nat} {z : Nat → Int} {i : Int} (q0 : Nat) (ha : ws[q0]? = some (a, .inl (cA, n, .inl (zf z)))) (ht : tys[1]? = some (cA, .byte)) (hd : decode cc pc = .ok (.baload, 1)) (hn : n < 2147483648) (hi : 0 ≤ i ∧ i < n) (k : Go C R D cl nL kc ns (ws) (pc + 1) (lv) (.int (iZ (z i.toNat)) :: st)) : Go C R D cl nL kc ns (ws) (pc) (lv) (.int (iZ i) :: .ref a :: st) := by
  obtain ⟨p, l, e, s, m, args, below, meth, c, Q, A, H0⟩ := C
  obtain ⟨⟨hx, hb, hml, hown, hts⟩, hK, hA, hlk0⟩ := F
  intro H locs ls hP hD hS hl
  refine va_bald hx hb hK hP q0 1 ha ht (iZ_in hi hn) hd ?_
  rw [iZ_cl ⟨hi.1, by omega⟩]
  exact k H locs ls hP hD hS hl
theorem z_bast (F : Fx C D cl tys cc nL Ts own) {ws' : va_W} {a : Nat} {cA : ClassId} {n : Nat} {z : Nat → Int} {i v : Int} (q0 : Nat) (ha : ws[q0]? = some (a, .inl (cA, n, .inl (zf z)))) (ht : tys[1]? = some (cA, .byte)) (hd : decode cc pc = .ok (.bastore, 1)) (hn : n < 2147483648) (hi : 0 ≤ i ∧ i < n) (hw : ws.set q0 (a, .inl (cA, n, .inl (zf (zu z i.toNat (v.bmod 256))))) = ws') (k : Go C R D cl nL kc ns (ws') (pc + 1) (lv) (st)) : Go C R D cl nL kc ns (ws) (pc) (lv) (.int (iZ v) :: .int (iZ i) :: .ref a :: st) := by
  obtain ⟨p, l, e, s, m, args, below, meth, c, Q, A, H0⟩ := C
  obtain ⟨⟨hx, hb, hml, hown, hts⟩, hK, hA, hlk0⟩ := F
  intro H locs ls hP hD hS hl
  refine va_bast hx hb hK hP hD hS q0 1 ha ht (iZ_in hi hn) hd (fun H locs hP hD hS => ?_)
  rw [iZ_cl ⟨hi.1, by omega⟩, vp_nar_byte, iZ_b, zf_upd] at hP hD
  rw [hw] at hP hD
  exact k H locs ls hP hD hS hl
theorem z_zald (F : Fx C D cl tys cc nL Ts own) {a : Nat} {cA : ClassId} {n : Nat} {z : Nat → Int} {i : Int} (q0 : Nat) (ha : ws[q0]? = some (a, .inl (cA, n, .inl (zf z)))) (ht : tys[2]? = some (cA, .boolean)) (hd : decode cc pc = .ok (.baload, 1)) (hn : n < 2147483648) (hi : 0 ≤ i ∧ i < n) (k : Go C R D cl nL kc ns (ws) (pc + 1) (lv) (.int (iZ (z i.toNat)) :: st)) : Go C R D cl nL kc ns (ws) (pc) (lv) (.int (iZ i) :: .ref a :: st) := by
  obtain ⟨p, l, e, s, m, args, below, meth, c, Q, A, H0⟩ := C
  obtain ⟨⟨hx, hb, hml, hown, hts⟩, hK, hA, hlk0⟩ := F
  intro H locs ls hP hD hS hl
  refine va_zald hx hb hK hP q0 2 ha ht (iZ_in hi hn) hd ?_
  rw [iZ_cl ⟨hi.1, by omega⟩]
  exact k H locs ls hP hD hS hl
theorem z_zast (F : Fx C D cl tys cc nL Ts own) {ws' : va_W} {a : Nat} {cA : ClassId} {n : Nat} {z : Nat → Int} {i v : Int} (q0 : Nat) (ha : ws[q0]? = some (a, .inl (cA, n, .inl (zf z)))) (ht : tys[2]? = some (cA, .boolean)) (hd : decode cc pc = .ok (.bastore, 1)) (hn : n < 2147483648) (hi : 0 ≤ i ∧ i < n) (hw : ws.set q0 (a, .inl (cA, n, .inl (zf (zu z i.toNat (v % 2))))) = ws') (k : Go C R D cl nL kc ns (ws') (pc + 1) (lv) (st)) : Go C R D cl nL kc ns (ws) (pc) (lv) (.int (iZ v) :: .int (iZ i) :: .ref a :: st) := by
  obtain ⟨p, l, e, s, m, args, below, meth, c, Q, A, H0⟩ := C
  obtain ⟨⟨hx, hb, hml, hown, hts⟩, hK, hA, hlk0⟩ := F
  intro H locs ls hP hD hS hl
  refine va_zast hx hb hK hP hD hS q0 2 ha ht (iZ_in hi hn) hd (fun H locs hP hD hS => ?_)
  rw [iZ_cl ⟨hi.1, by omega⟩, show vp_nar .boolean (iZ v) = iZ v &&& 1 from rfl, iZ_and1, zf_upd] at hP hD
  rw [hw] at hP hD
  exact k H locs ls hP hD hS hl
theorem z_lald (F : Fx C D cl tys cc nL Ts own) {a : Nat} {cA : ClassId} {n : Nat} {f : Nat → Int64} {i : Int} (q0 : Nat) (ha : ws[q0]? = some (a, .inl (cA, n, .inr (.inl f)))) (ht : tys[3]? = some (cA, .long)) (hd : decode cc pc = .ok (.laload, 1)) (hn : n < 2147483648) (hi : 0 ≤ i ∧ i < n) (k : Go C R D cl nL kc ns (ws) (pc + 1) (lv) (.long (f i.toNat) :: st)) : Go C R D cl nL kc ns (ws) (pc) (lv) (.int (iZ i) :: .ref a :: st) := by
  obtain ⟨p, l, e, s, m, args, below, meth, c, Q, A, H0⟩ := C
  obtain ⟨⟨hx, hb, hml, hown, hts⟩, hK, hA, hlk0⟩ := F
  intro H locs ls hP hD hS hl
  refine va_lald hx hb hK hP q0 3 ha ht (iZ_in hi hn) hd ?_
  rw [iZ_cl ⟨hi.1, by omega⟩]
  exact k H locs ls hP hD hS hl
theorem z_last (F : Fx C D cl tys cc nL Ts own) {ws' : va_W} {a : Nat} {cA : ClassId} {n : Nat} {f : Nat → Int64} {i : Int} {v : Int64} (q0 : Nat) (ha : ws[q0]? = some (a, .inl (cA, n, .inr (.inl f)))) (ht : tys[3]? = some (cA, .long)) (hd : decode cc pc = .ok (.lastore, 1)) (hn : n < 2147483648) (hi : 0 ≤ i ∧ i < n) (hw : ws.set q0 (a, .inl (cA, n, .inr (.inl (vp_updL f i.toNat v)))) = ws') (k : Go C R D cl nL kc ns (ws') (pc + 1) (lv) (st)) : Go C R D cl nL kc ns (ws) (pc) (lv) (.long v :: .int (iZ i) :: .ref a :: st) := by
  obtain ⟨p, l, e, s, m, args, below, meth, c, Q, A, H0⟩ := C
  obtain ⟨⟨hx, hb, hml, hown, hts⟩, hK, hA, hlk0⟩ := F
  intro H locs ls hP hD hS hl
  refine va_last hx hb hK hP hD hS q0 3 ha ht (iZ_in hi hn) hd (fun H locs hP hD hS => ?_)
  rw [iZ_cl ⟨hi.1, by omega⟩, hw] at hP hD
  exact k H locs ls hP hD hS hl
theorem z_alen (F : Fx C D cl tys cc nL Ts own) {a : Nat} {cA : ClassId} {x : vp_A} {ty : FieldType} (q0 t0 : Nat) (ha : ws[q0]? = some (a, .inl (cA, x))) (ht : tys[t0]? = some (cA, ty)) (hd : decode cc pc = .ok (.arraylength, 1)) (k : Go C R D cl nL kc ns (ws) (pc + 1) (lv) (.int (iZ (x.1 : Int)) :: st)) : Go C R D cl nL kc ns (ws) (pc) (lv) (.ref a :: st) := by
  obtain ⟨p, l, e, s, m, args, below, meth, c, Q, A, H0⟩ := C
  obtain ⟨⟨hx, hb, hml, hown, hts⟩, hK, hA, hlk0⟩ := F
  intro H locs ls hP hD hS hl
  exact va_alen hx hb hK hP q0 t0 ha ht (iZ_nat x.1) hd (k H locs ls hP hD hS hl)
theorem z_get (F : Fx C D cl tys cc nL Ts own) {a ci N index : Nat} {Cn : String} {T : u_T} {fs : List Value} {v : Value} (q0 k : Nat) (hin : ∀ w ∈ u_ws Cn T N, w ∈ Ts) (he : ws[q0]? = some (a, .inr (ci, fs))) (hc : cl[ci]? = some (Cn, T, N)) (hk : k < N) (hlk : Cond.fieldLink own index (T k).1 (T k).2.1 (T k).2.2.1 ∈ Ts) (hv : fs[k]? = some v) (hd : decode cc pc = .ok (.getfield index, 3)) (kk : Go C R D cl nL kc ns (ws) (pc + 3) (lv) (v :: st)) : Go C R D cl nL kc ns (ws) (pc) (lv) (.ref a :: st) := by
  obtain ⟨p, l, e, s, m, args, below, meth, c, Q, A, H0⟩ := C
  obtain ⟨⟨hx, hb, hml, hown, hts⟩, hK, hA, hlk0⟩ := F
  intro H locs ls hP hD hS hl
  exact va_get hx hb hts hin hown hK hP q0 he hc k hk (hts _ hlk) (fun _ h => h) hv hd (kk H locs ls hP hD hS hl)
theorem z_put (F : Fx C D cl tys cc nL Ts own) {ws' : va_W} {a ci N index : Nat} {Cn : String} {T : u_T} {fs : List Value} {v : Value} {ty : FieldType} (q0 k : Nat) (hin : ∀ w ∈ u_ws Cn T N, w ∈ Ts) (ty0 : Nat → FieldType) (hty : ∀ k, k < N → parseFieldDescriptor (T k).2.2.1 = some (ty0 k)) (hnm : ∀ a, a < N → ∀ b, b < N → a ≠ b → (T a).2.1 ≠ (T b).2.1) (he : ws[q0]? = some (a, .inr (ci, fs))) (hc : cl[ci]? = some (Cn, T, N)) (hk : k < N) (hlk : Cond.fieldLink own index (T k).1 (T k).2.1 (T k).2.2.1 ∈ Ts) (hfin : (T k).2.2.2 = false) (hte : ty0 k = ty) (hn : narrow ty v = v) (hfit : fits ty v = true) (hl0 : k < fs.length) (hd : decode cc pc = .ok (.putfield index, 3)) (hw : ws.set q0 (a, .inr (ci, fs.set k v)) = ws') (kk : Go C R D cl nL kc ns (ws') (pc + 3) (lv) (st)) : Go C R D cl nL kc ns (ws) (pc) (lv) (v :: .ref a :: st) := by
  obtain ⟨p, l, e, s, m, args, below, meth, c, Q, A, H0⟩ := C
  obtain ⟨⟨hx, hb, hml, hown, hts⟩, hK, hA, hlk0⟩ := F
  intro H locs ls hP hD hS hl
  refine va_put hx hb hts hin ty0 hty hnm hown hK hP hD hS q0 he hc k hk (hts _ hlk) (fun _ h => h) hfin (by rw [hty k hk, hte]) hn hfit hl0 hd (fun H locs hP hD hS => ?_)
  rw [hw] at hP hD
  exact kk H locs ls hP hD hS hl
theorem z_putF (F : Fx C D cl tys cc nL Ts own) {ws' : va_W} {a ci N index : Nat} {Cn : String} {T : u_T} {fs : List Value} {v : Value} {ty : FieldType} (q0 k : Nat) (hnmI : zNm C = "<init>") (hin : ∀ w ∈ u_ws Cn T N, w ∈ Ts) (ty0 : Nat → FieldType) (hty : ∀ k, k < N → parseFieldDescriptor (T k).2.2.1 = some (ty0 k)) (hnm : ∀ a, a < N → ∀ b, b < N → a ≠ b → (T a).2.1 ≠ (T b).2.1) (he : ws[q0]? = some (a, .inr (ci, fs))) (hc : cl[ci]? = some (Cn, T, N)) (hk : k < N) (hlk : Cond.fieldLink own index (T k).1 (T k).2.1 (T k).2.2.1 ∈ Ts) (hfin : (T k).2.2.2 = true) (hdecl : (T k).1 = own) (hte : ty0 k = ty) (hn : narrow ty v = v) (hfit : fits ty v = true) (hl0 : k < fs.length) (hd : decode cc pc = .ok (.putfield index, 3)) (hw : ws.set q0 (a, .inr (ci, fs.set k v)) = ws') (kk : Go C R D cl nL kc ns (ws') (pc + 3) (lv) (st)) : Go C R D cl nL kc ns (ws) (pc) (lv) (v :: .ref a :: st) := by
  obtain ⟨p, l, e, s, m, args, below, meth, c, Q, A, H0⟩ := C
  obtain ⟨⟨hx, hb, hml, hown, hts⟩, hK, hA, hlk0⟩ := F
  intro H locs ls hP hD hS hl
  refine va_putF hx hb hts hin ty0 hty hnm hown hK hP hD hS q0 he hc k hk (hts _ hlk) (fun _ h => h) hfin hnmI hdecl (by rw [hty k hk, hte]) hn hfit hl0 hd (fun H locs hP hD hS => ?_)
  rw [hw] at hP hD
  exact kk H locs ls hP hD hS hl
theorem z_nm (F : Fx C D cl tys cc nL Ts own) {x : Int} (k : ∀ y : Int, y = x → Go C R D cl nL kc ns (ws) (pc) (lv) (.int (iZ y) :: st)) : Go C R D cl nL kc ns (ws) (pc) (lv) (.int (iZ x) :: st) := k x rfl
theorem z_re (F : Fx C D cl tys cc nL Ts own) {ws' : va_W} {st' : List Value} (is : List Nat) (hn : va_nd is = true) (hs : is.map (fun i => ws[i]?) = ws'.map some) (hst : st = st') (k : Go C R D cl nL kc ns ws' pc lv st') : Go C R D cl nL kc ns (ws) (pc) (lv) (st) := by
  subst hst
  exact z_perm F is hn hs k
end ZROW
end
section
/-! contracts: a method over the cells wi alone, in words of its own; all methods share one list of words Ts -/
def Qo (D : va_G) (cl : List vw_C) (tys : List (ClassId × FieldType)) (A : Nat → Prop) (post : Option Value → va_W → Prop) : Array Value → State → Outcome → State → Prop :=
  fun _ st oc t => (∃ (v : Option Value) (wo : va_W), oc = .returned v ∧ post v wo ∧ va_P D cl wo t.heap ∧ va_K D cl tys t ∧ va_D A wo) ∧ va_F A st t
def Pi (D : va_G) (cl : List vw_C) (tys : List (ClassId × FieldType)) (sz : Nat) (wi : va_W) : State → Prop :=
  fun U => U.heap.size = sz ∧ va_P D cl wi U.heap ∧ va_K D cl tys U ∧ va_D (fun _ => True) wi
theorem Pi.blind {D : va_G} {cl : List vw_C} {tys : List (ClassId × FieldType)} {sz : Nat} {wi : va_W} {av : List Value} : FrameBlind (va_Pc av (Pi D cl tys sz wi)) := fun a U g mk q => by
  obtain ⟨q0, q1, qP, qK, qD⟩ := q
  exact ⟨q0, q1, qP, va_K.moved (u := U) (U := U.calling g mk a) (Vm.Alike.refl U.vm) qK, qD⟩
def Ct (Ts : List Cond) (l : Launch) (y : MethodName) (bytes : ByteArray) (maxL : Nat) (ret : Option FieldType) (rm : Room) (mc ms : Nat) (D : va_G) (cl : List vw_C) (tys : List (ClassId × FieldType)) (av : List Value) (wi : va_W) (post : Option Value → va_W → Prop) : Prop :=
  ∀ sz : Nat, Met l y (Cond.code y bytes maxL ret :: Ts) rm (va_Pc av (Pi D cl tys sz wi)) (Qo D cl tys (va_A wi sz) post) mc ms (va_A wi sz)
def Rt (C : ZC) (ret : Option FieldType) (mc ms : Nat) (D : va_G) (cl : List vw_C) (tys : List (ClassId × FieldType)) (post : Option Value → va_W → Prop) : Prop := match C with
  | (p, l, e, s, m, args, below, meth, c, Q, A, H0) => meth.sig.returnType = ret ∧ H0 = s.heap ∧ Q = MQ below (Qo D cl tys A post) args s mc ms A
theorem ct_of {Ts : List Cond} {l : Launch} {y : MethodName} {bytes : ByteArray} {maxL : Nat} {ret : Option FieldType} {rm : Room} {mc ms : Nat} {D : va_G} {cl : List vw_C} {tys : List (ClassId × FieldType)} {av : List Value} {wi : va_W} {post : Option Value → va_W → Prop} {own : String} {lv : List (Nat × Value)}
    (hy : plainName y.cls = true) (ho : y.cls = own) (hn : (lg_sl av).length ≤ maxL) (hlv : lv_args 0 av = lv)
    (body : ∀ C : ZC, Fx C D cl tys bytes maxL Ts own → Rt C ret mc ms D cl tys post → zNm C = y.name → zl C = l → Go C rm D cl maxL 0 0 wi 0 lv []) : Ct Ts l y bytes maxL ret rm mc ms D cl tys av wi post := by
  intro sz
  refine Met.ofW (cc := bytes) (maxL := maxL) (ret := ret) hy rfl ?_
  intro p e s m args below meth c s₁ B hml hv
  obtain ⟨rfl, hsz, hP, hK, hD0⟩ := hv
  have hts := atoms_spec (ws := Cond.code y bytes maxL ret :: Ts) B.pre
  have hown : s.vm.findClass own = some m.cls := by rw [← ho]; exact findClass_of_methodNamed B.named
  have hin : meth.name = y.name := (name_of_methodNamed B.named B.method).1
  subst hsz
  have hD := hD0.self (sz := s.heap.size)
  have hl := lv_entry av (n := maxL) hn
  rw [lg_entry_eq]
  rw [hlv] at hl
  exact body (p, l, e, s, m, av.toArray, below, meth, c, MQ below (Qo D cl tys (va_A wi s.heap.size) post) av.toArray s mc ms (va_A wi s.heap.size), va_A wi s.heap.size, s.heap)
    ⟨⟨B.exec, B.bytes, hml, hown, fun w hw => hts w (List.mem_cons_of_mem _ hw)⟩, hK, fun q h => Or.inr h, B.notSynchronized⟩ ⟨B.returns, rfl, rfl⟩ hin rfl s.heap [] _ hP hD va_S.rf hl
section ZRET
variable {C : ZC} {R : Room} {D : va_G} {cl : List vw_C} {tys : List (ClassId × FieldType)} {cc : ByteArray} {nL : Nat} {Ts : List Cond} {own : String} {kc ns mc ms : Nat} {ws : va_W} {pc : Nat} {lv : List (Nat × Value)} {st : List Value} {post : Option Value → va_W → Prop}
theorem z_iret (F : Fx C D cl tys cc nL Ts own) (hr : Rt C (some .int) mc ms D cl tys post) {v : Int32} (hd : decode cc pc = .ok (.ireturn, 1)) (hk : kc ≤ mc ∧ ns ≤ ms) (hp : post (some (.int v)) ws) : Go C R D cl nL kc ns ws pc lv [.int v] := by
  obtain ⟨p, l, e, s, m, args, below, meth, c, Q, A, H0⟩ := C
  obtain ⟨⟨hx, hb, hml, hown, hts⟩, hK, hA, hlk⟩ := F
  obtain ⟨hrt, rfl, rfl⟩ := hr
  intro H locs ls hP hD hS hl
  refine W.widen hk.1 hk.2 ?_
  exact W.iret hx hb hrt (fun t ht hW => ⟨⟨_, ws, rfl, hp, by rw [ht]; exact hP, va_K.moved hW.alike hK, hD⟩, hS.F ht⟩) hS.2.2 hd hlk
theorem z_zret (F : Fx C D cl tys cc nL Ts own) {ty : FieldType} (hr : Rt C (some ty) mc ms D cl tys post) {v : Int32} (hnr : narrow ty (.int v) = .int v) (hd : decode cc pc = .ok (.ireturn, 1)) (hk : kc ≤ mc ∧ ns ≤ ms) (hp : post (some (.int v)) ws) : Go C R D cl nL kc ns ws pc lv [.int v] := by
  obtain ⟨p, l, e, s, m, args, below, meth, c, Q, A, H0⟩ := C
  obtain ⟨⟨hx, hb, hml, hown, hts⟩, hK, hA, hlk⟩ := F
  obtain ⟨hrt, rfl, rfl⟩ := hr
  intro H locs ls hP hD hS hl
  refine W.widen hk.1 hk.2 ?_
  exact W.zret hx hb hrt hnr (fun t ht hW => ⟨⟨_, ws, rfl, hp, by rw [ht]; exact hP, va_K.moved hW.alike hK, hD⟩, hS.F ht⟩) hS.2.2 hd hlk
theorem z_lret (F : Fx C D cl tys cc nL Ts own) (hr : Rt C (some .long) mc ms D cl tys post) {v : Int64} (hd : decode cc pc = .ok (.lreturn, 1)) (hk : kc ≤ mc ∧ ns ≤ ms) (hp : post (some (.long v)) ws) : Go C R D cl nL kc ns ws pc lv [.long v] := by
  obtain ⟨p, l, e, s, m, args, below, meth, c, Q, A, H0⟩ := C
  obtain ⟨⟨hx, hb, hml, hown, hts⟩, hK, hA, hlk⟩ := F
  obtain ⟨hrt, rfl, rfl⟩ := hr
  intro H locs ls hP hD hS hl
  refine W.widen hk.1 hk.2 ?_
  exact W.lret hx hb hrt (fun t ht hW => ⟨⟨_, ws, rfl, hp, by rw [ht]; exact hP, va_K.moved hW.alike hK, hD⟩, hS.F ht⟩) hS.2.2 hd hlk
theorem z_vret (F : Fx C D cl tys cc nL Ts own) (hr : Rt C none mc ms D cl tys post) (hd : decode cc pc = .ok (.return_, 1)) (hk : kc ≤ mc ∧ ns ≤ ms) (hp : post none ws) : Go C R D cl nL kc ns ws pc lv [] := by
  obtain ⟨p, l, e, s, m, args, below, meth, c, Q, A, H0⟩ := C
  obtain ⟨⟨hx, hb, hml, hown, hts⟩, hK, hA, hlk⟩ := F
  obtain ⟨hrt, rfl, rfl⟩ := hr
  intro H locs ls hP hD hS hl
  refine W.widen hk.1 hk.2 ?_
  exact W.vret hx hb hrt (fun t ht hW => ⟨⟨_, ws, rfl, hp, by rw [ht]; exact hP, va_K.moved hW.alike hK, hD⟩, hS.F ht⟩) hS.2.2 hd hlk
end ZRET
theorem z_run {p : Program} {l : Launch} {e : Env} {R : Room} {s : State} {m : MethodId} {args : Array Value} {below : List Frame} {meth : Method} {c : Code} {Q : State → Prop} {A : Nat → Prop} {H0 H : Heap} {D : va_G} {cl : List vw_C} {tys : List (ClassId × FieldType)} {nL kc ns mc ms pc : Nat} {lv : List (Nat × Value)} {st rest : List Value} {ws wc wr : va_W} {locs : List Loc} {ls : Array Slot} {post : Option Value → va_W → Prop} {av : Array Value}
    (hA : ∀ q, H0.size ≤ q → A q) (hP : va_P D cl ws H) (hD : va_D A ws) (hS : va_S A H0 H locs) (hl : lv_has ls nL lv)
    (hr : va_Run p l e R s m args below meth c H locs kc ns mc ms (F0 m pc ls st) rest (Qo D cl tys (va_A wc H.size) post av) (va_A wc H.size))
    (isC isR : List Nat) (hC : isC.map (fun i => ws[i]?) = wc.map some) (hR : isR.map (fun i => ws[i]?) = wr.map some) (hRn : va_nd isR = true) (hdis : ∀ i ∈ isR, i ∉ isC)
    (kk : ∀ (v : Option Value) (wo : va_W), post v wo → Go (p, l, e, s, m, args, below, meth, c, Q, A, H0) R D cl nL (kc + mc) (ns + ms) (wr ++ wo) (pc + 3) lv (v.toList ++ rest)) :
    W p l e R s m args below meth c H locs kc ns Q (F0 m pc ls st) := by
  have hF := va_free (wc := wc) hD hS hA isC hC
  intro T hT X
  obtain ⟨v, st₀, t, T', L, h0, X', hL, e1, e2, ⟨⟨v', wo, hv, hp, hP1, hK1, hD1⟩, hz, hk⟩, stp⟩ := hr T hT X
  cases hv
  rw [h0] at hz hk
  have hP1' : va_P D cl wo T'.heap := by rw [e1]; exact hP1
  obtain ⟨hPj, hDj⟩ := va_join (wr := wr) (w1 := wo) (H1 := T'.heap) hP hD isC isR hC hR hRn hdis (fun q h1 h2 => by rw [e1]; exact hk q h1 h2) hF hP1' hD1
  obtain ⟨t2, a1, b1⟩ := kk v wo hp T'.heap (locs ++ L) ls hPj hDj ⟨Nat.le_trans hS.1 (by rw [e1]; exact hz), fun q h1 h2 => by rw [e1, hk q (Nat.lt_of_lt_of_le h1 hS.1) (fun z => h2 (hF q z))]; exact hS.2.1 q h1 h2, fun q hq => by
      rcases List.mem_append.mp hq with h | h
      · exact hS.2.2 q h
      · exact hF _ (hL q h)⟩ hl T' rfl X'
  exact ⟨t2, stp t2 a1, b1⟩
abbrev Wg (Ts : List Cond) : Prop := ∀ w ∈ Ts, (w.onTables && w.keeps) = true ∨ ∃ ty, w = .arrayClass ty
theorem callB_ofT {Ts : List Cond} {R : Room} {s : State} {args : Array Value} {own : String} {index maxL mc ms : Nat} {y : MethodName} {bytes : ByteArray} {ret : Option FieldType} {rm : Room} (n : Nat) (ht : ∀ w ∈ Ts, w.before args s = true) (hg : Wg Ts) (hcode : Cond.code y bytes maxL ret ∈ Ts) (hrc : rm.cells = mc) (hrs : rm.slots = ms) (hini : Cond.initialized y.cls ∈ Ts) (hl : Cond.methodLink own index y ∈ Ts)
    (hd : y.cls ≠ "java/lang/invoke/MethodHandle" ∧ y.cls ≠ "java/lang/invoke/VarHandle" ∧ (parseMethodDescriptor y.desc).map (fun d => d.parameters.length) = some n) (hR : rm.frames + 1 ≤ R.frames ∧ 8 + (maxL + 11) + rm.locals ≤ R.locals) :
    CallB R s args own index y bytes maxL ret (Cond.code y bytes maxL ret :: Ts) rm mc ms n :=
  callB_of n ht (fun w h => by
    rcases List.mem_cons.mp h with rfl | h
    · exact ⟨hcode, hg _ hcode⟩
    · exact ⟨h, hg w h⟩) rfl hrc hrs (ht _ hini) (ht _ hl) hd hR
theorem sub_map {is : List Nat} {ws wc : va_W} (h : is.map (fun i => ws[i]?) = wc.map some) : is.filterMap (fun i => ws[i]?) = wc := by
  induction is generalizing wc with
  | nil => cases wc with
    | nil => rfl
    | cons a t => simp at h
  | cons a t ih => cases wc with
    | nil => simp at h
    | cons b u =>
      simp only [List.map_cons, List.cons.injEq] at h
      rw [List.filterMap_cons, h.1, ih h.2]
section ZCALL
variable {C : ZC} {R : Room} {D : va_G} {cl : List vw_C} {tys : List (ClassId × FieldType)} {cc bytes : ByteArray} {nL maxL index : Nat} {Ts : List Cond} {own : String} {kc ns mc ms : Nat} {ws wc wr : va_W} {pc : Nat} {lv : List (Nat × Value)} {st : List Value} {post : Option Value → va_W → Prop} {y : MethodName} {ret : Option FieldType} {rm : Room} {As rest : List Value} {b ci : Nat} {q : vw_C} {fs : List Value}
theorem z_callV (F : Fx C D cl tys cc nL Ts own) (hg : Wg Ts) (hct : Ct Ts (zl C) y bytes maxL ret rm mc ms D cl tys (.ref b :: As) wc post) (hcode : Cond.code y bytes maxL ret ∈ Ts) (hini : Cond.initialized y.cls ∈ Ts) (hlk : Cond.methodLink own index y ∈ Ts) (him : Cond.instanceMethod y ∈ Ts) (hse : Cond.selects q.1 y y ∈ Ts)
    (hrc : rm.cells = mc ∧ rm.slots = ms) (hd : y.cls ≠ "java/lang/invoke/MethodHandle" ∧ y.cls ≠ "java/lang/invoke/VarHandle" ∧ (parseMethodDescriptor y.desc).map (fun d => d.parameters.length) = some As.length) (hR : rm.frames + 1 ≤ R.frames ∧ 8 + (maxL + 11) + rm.locals ≤ R.locals)
    (q0 : Nat) (he : wc[q0]? = some (b, .inr (ci, fs))) (hc : cl[ci]? = some q) (hst : st = As.reverse ++ .ref b :: rest) (hroom : (rest.map fun v => v.category).sum ≤ 8) (hdg : decode cc pc = .ok (.invokevirtual index, 3)) (hf : kc + mc ≤ R.cells ∧ ns + ms ≤ R.slots)
    (isC isR : List Nat) (hC : isC.map (fun i => ws[i]?) = wc.map some) (hCn : va_nd isC = true) (hRr : isR.map (fun i => ws[i]?) = wr.map some) (hRn : va_nd isR = true) (hdis : ∀ i ∈ isR, i ∉ isC)
    (kk : ∀ (v : Option Value) (wo : va_W), post v wo → Go C R D cl nL (kc + mc) (ns + ms) (wr ++ wo) (pc + 3) lv (v.toList ++ rest)) : Go C R D cl nL kc ns ws pc lv st := by
  obtain ⟨p, l, e, s, m, args, below, meth, c, Q, A, H0⟩ := C
  obtain ⟨⟨hx, hb, hml, hown, hts⟩, hK, hA, hlk0⟩ := F
  intro H locs ls hP hD hS hl
  have hPc := hP.sub isC (sub_map hC)
  have hDc := hD.sub isC hCn hC
  refine z_run hA hP hD hS hl (va_runV (As := As) (rest := rest) (n := As.length) ⟨hx, hb, hml, hown, hts⟩ (hct H.size) ⟨callB_ofT _ hts hg hcode hrc.1 hrc.2 hini hlk hd hR, hts _ him, hts _ hse⟩ ⟨Pi.blind, va_recv hK hPc hc he, fun U hU hW => ⟨rfl, by rw [hU], by rw [hU]; exact hPc, va_K.moved hW.alike hK, hDc.weaken (fun _ _ _ _ => trivial)⟩⟩ rfl rfl hl.1 hst (lv_room hroom) hdg hf) isC isR hC hRr hRn hdis kk
theorem z_callS (F : Fx C D cl tys cc nL Ts own) (hg : Wg Ts) (hct : Ct Ts (zl C) y bytes maxL ret rm mc ms D cl tys As wc post) (hcode : Cond.code y bytes maxL ret ∈ Ts) (hini : Cond.initialized y.cls ∈ Ts) (hlk : Cond.methodLink own index y ∈ Ts) (hst0 : Cond.static y ∈ Ts)
    (hrc : rm.cells = mc ∧ rm.slots = ms) (hd : y.cls ≠ "java/lang/invoke/MethodHandle" ∧ y.cls ≠ "java/lang/invoke/VarHandle" ∧ (parseMethodDescriptor y.desc).map (fun d => d.parameters.length) = some As.length) (hR : rm.frames + 1 ≤ R.frames ∧ 8 + (maxL + 11) + rm.locals ≤ R.locals)
    (hst : st = As.reverse ++ rest) (hroom : (rest.map fun v => v.category).sum ≤ 8) (hdg : decode cc pc = .ok (.invokestatic index, 3)) (hf : kc + mc ≤ R.cells ∧ ns + ms ≤ R.slots)
    (isC isR : List Nat) (hC : isC.map (fun i => ws[i]?) = wc.map some) (hCn : va_nd isC = true) (hRr : isR.map (fun i => ws[i]?) = wr.map some) (hRn : va_nd isR = true) (hdis : ∀ i ∈ isR, i ∉ isC)
    (kk : ∀ (v : Option Value) (wo : va_W), post v wo → Go C R D cl nL (kc + mc) (ns + ms) (wr ++ wo) (pc + 3) lv (v.toList ++ rest)) : Go C R D cl nL kc ns ws pc lv st := by
  obtain ⟨p, l, e, s, m, args, below, meth, c, Q, A, H0⟩ := C
  obtain ⟨⟨hx, hb, hml, hown, hts⟩, hK, hA, hlk0⟩ := F
  intro H locs ls hP hD hS hl
  have hPc := hP.sub isC (sub_map hC)
  have hDc := hD.sub isC hCn hC
  refine z_run hA hP hD hS hl (va_runS (As := As) (rest := rest) (n := As.length) ⟨hx, hb, hml, hown, hts⟩ (hct H.size) ⟨callB_ofT _ hts hg hcode hrc.1 hrc.2 hini hlk hd hR, hts _ hst0⟩ ⟨Pi.blind, fun U hU hW => ⟨rfl, by rw [hU], by rw [hU]; exact hPc, va_K.moved hW.alike hK, hDc.weaken (fun _ _ _ _ => trivial)⟩⟩ rfl rfl hl.1 hst (lv_room hroom) hdg hf) isC isR hC hRr hRn hdis kk
theorem z_callI (F : Fx C D cl tys cc nL Ts own) (hg : Wg Ts) (hct : Ct Ts (zl C) y bytes maxL none rm mc ms D cl tys (.ref b :: As) wc post) (hcode : Cond.code y bytes maxL none ∈ Ts) (hini : Cond.initialized y.cls ∈ Ts) (hlk : Cond.methodLink own index y ∈ Ts) (him : Cond.instanceMethod y ∈ Ts) (hnm : y.name = "<init>")
    (hrc : rm.cells = mc ∧ rm.slots = ms) (hd : y.cls ≠ "java/lang/invoke/MethodHandle" ∧ y.cls ≠ "java/lang/invoke/VarHandle" ∧ (parseMethodDescriptor y.desc).map (fun d => d.parameters.length) = some As.length) (hR : rm.frames + 1 ≤ R.frames ∧ 8 + (maxL + 11) + rm.locals ≤ R.locals)
    (hst : st = As.reverse ++ .ref b :: rest) (hroom : (rest.map fun v => v.category).sum ≤ 8) (hdg : decode cc pc = .ok (.invokespecial index, 3)) (hf : kc + mc ≤ R.cells ∧ ns + ms ≤ R.slots)
    (isC isR : List Nat) (hC : isC.map (fun i => ws[i]?) = wc.map some) (hCn : va_nd isC = true) (hRr : isR.map (fun i => ws[i]?) = wr.map some) (hRn : va_nd isR = true) (hdis : ∀ i ∈ isR, i ∉ isC)
    (kk : ∀ (v : Option Value) (wo : va_W), post v wo → Go C R D cl nL (kc + mc) (ns + ms) (wr ++ wo) (pc + 3) lv (v.toList ++ rest)) : Go C R D cl nL kc ns ws pc lv st := by
  obtain ⟨p, l, e, s, m, args, below, meth, c, Q, A, H0⟩ := C
  obtain ⟨⟨hx, hb, hml, hown, hts⟩, hK, hA, hlk0⟩ := F
  intro H locs ls hP hD hS hl
  have hPc := hP.sub isC (sub_map hC)
  have hDc := hD.sub isC hCn hC
  refine z_run hA hP hD hS hl (va_runI (As := As) (rest := rest) (n := As.length) ⟨hx, hb, hml, hown, hts⟩ (hct H.size) ⟨callB_ofT _ hts hg hcode hrc.1 hrc.2 hini hlk hd hR, hnm, hts _ him⟩ ⟨Pi.blind, fun U hU hW => ⟨rfl, by rw [hU], by rw [hU]; exact hPc, va_K.moved hW.alike hK, hDc.weaken (fun _ _ _ _ => trivial)⟩⟩ rfl rfl hl.1 hst (lv_room hroom) hdg hf) isC isR hC hRr hRn hdis kk
theorem z_objInit (F : Fx C D cl tys cc nL Ts own) {a : Nat} (hlk : Cond.methodLink own index Lib.objectInit ∈ Ts) (him : Cond.instanceMethod Lib.objectInit ∈ Ts) (hcode : Cond.code Lib.objectInit ⟨#[0xb1]⟩ 1 none ∈ Ts) (hdg : decode cc pc = .ok (.invokespecial index, 3)) (hfr : 1 ≤ R.frames) (hlo : (st.map fun v => v.category).sum + 12 ≤ R.locals)
    (kk : Go C R D cl nL kc ns ws (pc + 3) lv st) : Go C R D cl nL kc ns ws pc lv (.ref a :: st) := by
  obtain ⟨p, l, e, s, m, args, below, meth, c, Q, A, H0⟩ := C
  obtain ⟨⟨hx, hb, hml, hown, hts⟩, hK, hA, hlk0⟩ := F
  intro H locs ls hP hD hS hl
  exact W.objInit hx hb hown (hts _ hlk) (hts _ him) (hts _ hcode) rfl (by rw [hml]; exact hl.1) rfl hdg hfr (by show 2 * 0 + _ + 12 ≤ _; omega) (kk H locs ls hP hD hS hl)
theorem z_new (F : Fx C D cl tys cc nL Ts own) {Cn : String} {T : u_T} {N : Nat} (hin : ∀ w ∈ u_ws Cn T N, w ∈ Ts) (ty : Nat → FieldType) (hty : ∀ k, k < N → parseFieldDescriptor (T k).2.2.1 = some (ty k)) (hcl : Cond.classLink own index Cn ∈ Ts) (hins : Cond.instantiable Cn N ∈ Ts) (hini : Cond.initialized Cn ∈ Ts) (hc : cl[ci]? = some (Cn, T, N)) (hfs : ∀ j, j < N → defaultValue (ty j) = vp_V fs j) (hf : kc + 1 ≤ R.cells ∧ ns + N ≤ R.slots) (hdg : decode cc pc = .ok (.new index, 3))
    (kk : ∀ a : Nat, Go C R D cl nL (kc + 1) (ns + N) (ws ++ [(a, .inr (ci, fs))]) (pc + 3) lv (.ref a :: st)) : Go C R D cl nL kc ns ws pc lv st := by
  obtain ⟨p, l, e, s, m, args, below, meth, c, Q, A, H0⟩ := C
  obtain ⟨⟨hx, hb, hml, hown, hts⟩, hK, hA, hlk0⟩ := F
  intro H locs ls hP hD hS hl
  exact va_new hx hb hts hin ty hty hown (hts _ hcl) (hts _ hins) (hts _ hini) hK hP hD hS hA hc hfs hf.1 hf.2 hdg (fun q H hP hD hS => kk q H locs ls hP hD hS hl)
theorem z_newa (F : Fx C D cl tys cc nL Ts own) {atype : ArrayType} {ty : FieldType} {cA : ClassId} (t0 : Nat) (harr : Cond.arrayClass ty ∈ Ts) (hty : newarray.typeOf atype = ty) (ht : tys[t0]? = some (cA, ty)) (hpr : ∀ (U : State) (c : ClassId), va_RA U c ty = (U.vm.findClass ("[" ++ ty.toString) = some c)) {i : Int} {N : Nat} {a0 : (Nat → Int32) ⊕ (Nat → Int64) ⊕ (Nat → UInt32) ⊕ (Nat → UInt64) ⊕ (Nat → Option Nat)} (ha : ∀ cA : ClassId, vp_cell cA (N, a0) = arrV cA N (fun _ => defaultValue ty)) (hi : 0 ≤ i ∧ i ≤ 2147483647) (hN : i.toNat = N) (hby : N * componentBytes ty ≤ 536870912) (hf : kc + 1 ≤ R.cells ∧ ns + N ≤ R.slots) (hdg : decode cc pc = .ok (.newarray atype, 2))
    (kk : ∀ a : Nat, Go C R D cl nL (kc + 1) (ns + N) (ws ++ [(a, .inl (cA, N, a0))]) (pc + 2) lv (.ref a :: st)) : Go C R D cl nL kc ns ws pc lv (.int (iZ i) :: st) := by
  obtain ⟨p, l, e, s, m, args, below, meth, c, Q, A, H0⟩ := C
  obtain ⟨⟨hx, hb, hml, hown, hts⟩, hK, hA, hlk0⟩ := F
  intro H locs ls hP hD hS hl
  subst hty
  refine va_newa hx hb (hts _ harr) rfl hK hP hD hS hA (N' := N) (a0 := (N, a0)) ha (fun q => ?_) (by rw [iZ_cl hi]; exact hN) hby hf.1 hf.2 hdg (fun q cA2 H hK2 hP hD hS => ?_)
  · have := (iZ_lt (a := i) (b := 0) ⟨⟨by omega, by omega⟩, by decide⟩).mp q
    omega
  · have h1 := (hK.2 t0 _ ht).2
    have h2 := (hK2.2 tys.length (cA2, newarray.typeOf atype) (by simp)).2
    dsimp only at h1 h2
    rw [hpr] at h1 h2
    have h3 : cA = cA2 := Option.some.inj (h1.symm.trans h2)
    subst h3
    exact kk q H locs ls hP hD hS hl
end ZCALL
section ZMATH
variable {C : ZC} {R : Room} {D : va_G} {cl : List vw_C} {tys : List (ClassId × FieldType)} {cc bytes : ByteArray} {nL maxL index : Nat} {Ts : List Cond} {own : String} {kc ns : Nat} {ws : va_W} {pc : Nat} {lv : List (Nat × Value)} {st : List Value}
theorem z_max (F : Fx C D cl tys cc nL Ts own) {a b : Int} (hlk : Cond.methodLink own index Lib.Math.max.name ∈ Ts) (hst : Cond.static Lib.Math.max.name ∈ Ts) (hini : Cond.initialized "java/lang/Math" ∈ Ts) (hcode : Cond.code Lib.Math.max.name Lib.Math.max.code 2 (some .int) ∈ Ts) (hfr : 1 ≤ R.frames) (hlo : (st.map fun v => v.category).sum + 13 ≤ R.locals) (hf : kc ≤ R.cells ∧ ns ≤ R.slots) (h : (-2147483648 ≤ a ∧ a ≤ 2147483647) ∧ (-2147483648 ≤ b ∧ b ≤ 2147483647)) (hdg : decode cc pc = .ok (.invokestatic index, 3))
    (k : Go C R D cl nL kc ns ws (pc + 3) lv (.int (iZ (max a b)) :: st)) : Go C R D cl nL kc ns ws pc lv (.int (iZ b) :: .int (iZ a) :: st) := by
  obtain ⟨p, l, e, s, m, args, below, meth, c, Q, A, H0⟩ := C
  obtain ⟨⟨hx, hb, hml, hown, hts⟩, hK, hA, hlk0⟩ := F
  intro H locs ls hP hD hS hl
  refine va_mmax hx hb (by rw [hml]; exact hl.1.symm) hown (hts _ hlk) (hts _ hst) (hts _ hini) (hts _ hcode) hfr hlo hf.1 hf.2 hdg ?_
  rw [iZ_max a b h]
  exact k H locs ls hP hD hS hl
theorem z_min (F : Fx C D cl tys cc nL Ts own) {a b : Int} (hlk : Cond.methodLink own index Lib.Math.min.name ∈ Ts) (hst : Cond.static Lib.Math.min.name ∈ Ts) (hini : Cond.initialized "java/lang/Math" ∈ Ts) (hcode : Cond.code Lib.Math.min.name Lib.Math.min.code 2 (some .int) ∈ Ts) (hfr : 1 ≤ R.frames) (hlo : (st.map fun v => v.category).sum + 13 ≤ R.locals) (hf : kc ≤ R.cells ∧ ns ≤ R.slots) (h : (-2147483648 ≤ a ∧ a ≤ 2147483647) ∧ (-2147483648 ≤ b ∧ b ≤ 2147483647)) (hdg : decode cc pc = .ok (.invokestatic index, 3))
    (k : Go C R D cl nL kc ns ws (pc + 3) lv (.int (iZ (min a b)) :: st)) : Go C R D cl nL kc ns ws pc lv (.int (iZ b) :: .int (iZ a) :: st) := by
  obtain ⟨p, l, e, s, m, args, below, meth, c, Q, A, H0⟩ := C
  obtain ⟨⟨hx, hb, hml, hown, hts⟩, hK, hA, hlk0⟩ := F
  intro H locs ls hP hD hS hl
  refine va_mmin hx hb (by rw [hml]; exact hl.1.symm) hown (hts _ hlk) (hts _ hst) (hts _ hini) (hts _ hcode) hfr hlo hf.1 hf.2 hdg ?_
  rw [iZ_min a b h]
  exact k H locs ls hP hD hS hl
theorem z_copy (F : Fx C D cl tys cc nL Ts own) {ws' : va_W} {a0 a1 n0 n1 : Nat} {c0 : ClassId} {ty : FieldType} {z w : Nat → Int} {sp dp n : Int} (q0 q1 t0 : Nat) (ha0 : ws[q0]? = some (a0, .inl (c0, n0, .inl (zf z)))) (ha1 : ws[q1]? = some (a1, .inl (c0, n1, .inl (zf w)))) (ht0 : tys[t0]? = some (c0, ty)) (hprim : refKind ty = false) (hlk : Cond.methodLink own index arraycopyName ∈ Ts) (hnat : Cond.native arraycopyName ∈ Ts) (hst : Cond.static arraycopyName ∈ Ts) (hini : Cond.initialized "java/lang/System" ∈ Ts)
    (h1 : 0 ≤ sp ∧ 0 ≤ dp ∧ 0 ≤ n ∧ sp + n ≤ n0 ∧ dp + n ≤ n1 ∧ n0 < 2147483648 ∧ n1 < 2147483648) (hfit : ∀ i : Nat, i < n.toNat → fits ty (.int (iZ (z (sp.toNat + i)))) = true) (hfr : 1 ≤ R.frames) (hlo : (st.map fun v => v.category).sum + (nativeFrameWords "java/lang/System" "arraycopy" 5 + 11) ≤ R.locals) (hdg : decode cc pc = .ok (.invokestatic index, 3))
    (hw : ws.set q1 (a1, .inl (c0, n1, .inl (zf (va_cpy z w sp.toNat dp.toNat n.toNat)))) = ws')
    (k : Go C R D cl nL kc ns ws' (pc + 3) lv st) : Go C R D cl nL kc ns ws pc lv (.int (iZ n) :: .int (iZ dp) :: .ref a1 :: .int (iZ sp) :: .ref a0 :: st) := by
  obtain ⟨p, l, e, s, m, args, below, meth, c, Q, A, H0⟩ := C
  obtain ⟨⟨hx, hb, hml, hown, hts⟩, hK, hA, hlk0⟩ := F
  intro H locs ls hP hD hS hl
  have e1 : (iZ sp).toNatClampNeg = sp.toNat := iZ_cl ⟨by omega, by omega⟩
  have e2 : (iZ dp).toNatClampNeg = dp.toNat := iZ_cl ⟨by omega, by omega⟩
  have e3 : (iZ n).toNatClampNeg = n.toNat := iZ_cl ⟨by omega, by omega⟩
  have ng : ∀ x : Int, 0 ≤ x → x ≤ 2147483647 → ¬ iZ x < 0 := fun x g1 g2 q => by
    have := (iZ_lt (a := x) (b := 0) ⟨⟨by omega, by omega⟩, by decide⟩).mp q
    omega
  refine va_copyi hx hb (by rw [hml]; exact hl.1.symm) hown (hts _ hlk) (hts _ hnat) (hts _ hst) (hts _ hini) hK hP hD hS q0 q1 t0 t0 ha0 ha1 ht0 ht0 hprim (ng sp (by omega) (by omega)) (ng dp (by omega) (by omega)) (ng n (by omega) (by omega)) (by rw [e1, e3]; omega) (by rw [e2, e3]; omega) (fun i hi => by rw [e1]; rw [e3] at hi; exact hfit i hi) hfr hlo hdg (fun H locs hP hD hS => ?_)
  rw [e1, e2, e3, zf_cpy, hw] at hP hD
  exact k H locs ls hP hD hS hl
end ZMATH
end
