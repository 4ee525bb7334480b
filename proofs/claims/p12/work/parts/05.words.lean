theorem ts_0 : Cond.selects RX5 yX5_fitsEdition yX5_fitsEdition ∈ lw_T := lw_inS 0 rfl rfl
theorem ts_1 : Cond.selects RX5 yX5_beginEmpty yX5_beginEmpty ∈ lw_T := lw_inS 1 rfl rfl
theorem ts_10 : Cond.selects RX5 yX5_keep yX5_keep ∈ lw_T := lw_inS 10 rfl rfl
theorem ts_11 : Cond.selects RX5 yX5_writeRow yX5_writeRow ∈ lw_T := lw_inS 11 rfl rfl
theorem ts_12 : Cond.selects RX0 yX0_latestWrite yX0_latestWrite ∈ lw_T := lw_inS 12 rfl rfl
theorem ts_13 : Cond.selects RX5 yX5_doStep yX5_doStep ∈ lw_T := lw_inS 13 rfl rfl
theorem ts_14 : Cond.selects RX5 yX5_takePlace yX5_takePlace ∈ lw_T := lw_inS 14 rfl rfl
theorem ts_15 : Cond.selects RX5 yX5_endCompaction yX5_endCompaction ∈ lw_T := lw_inS 15 rfl rfl
theorem ts_16 : Cond.selects RX3 yX3_move yX3_move ∈ lw_T := lw_inS 16 rfl rfl
theorem ts_17 : Cond.selects RX5 yX5_allAskedAhead yX5_allAskedAhead ∈ lw_T := lw_inS 17 rfl rfl
theorem ts_18 : Cond.selects RX5 yX5_aboutRunning yX5_aboutRunning ∈ lw_T := lw_inS 18 rfl rfl
theorem ts_2 : Cond.selects RX3 yX3_index yX3_index ∈ lw_T := lw_inS 2 rfl rfl
theorem ts_20 : Cond.selects RX6 yX6_isHead yX6_isHead ∈ lw_T := lw_inS 20 rfl rfl
theorem ts_21 : Cond.selects RX6 yX6_load yX6_load ∈ lw_T := lw_inS 21 rfl rfl
theorem ts_22 : Cond.selects RX6 yX6_number yX6_number ∈ lw_T := lw_inS 22 rfl rfl
theorem ts_23 : Cond.selects RX6 yX6_sum yX6_sum ∈ lw_T := lw_inS 23 rfl rfl
theorem ts_24 : Cond.selects RX6 yX6_zeros yX6_zeros ∈ lw_T := lw_inS 24 rfl rfl
theorem ts_25 : Cond.selects RX6 yX6_clear yX6_clear ∈ lw_T := lw_inS 25 rfl rfl
theorem ts_26 : Cond.selects RX6 yX6_send yX6_send ∈ lw_T := lw_inS 26 rfl rfl
theorem ts_27 : Cond.selects RX6 yX6_bringAll yX6_bringAll ∈ lw_T := lw_inS 27 rfl rfl
theorem ts_28 : Cond.selects RX6 yX6_bring yX6_bring ∈ lw_T := lw_inS 28 rfl rfl
theorem ts_29 : Cond.selects RX6 yX6_read yX6_read ∈ lw_T := lw_inS 29 rfl rfl
theorem ts_3 : Cond.selects RX3 yX3_indexPlace yX3_indexPlace ∈ lw_T := lw_inS 3 rfl rfl
theorem ts_30 : Cond.selects RX6 yX6_sectorOf yX6_sectorOf ∈ lw_T := lw_inS 30 rfl rfl
theorem ts_31 : Cond.selects RX6 yX6_isRow yX6_isRow ∈ lw_T := lw_inS 31 rfl rfl
theorem ts_32 : Cond.selects RX6 yX6_changeHeads yX6_changeHeads ∈ lw_T := lw_inS 32 rfl rfl
theorem ts_33 : Cond.selects RX6 yX6_head yX6_head ∈ lw_T := lw_inS 33 rfl rfl
theorem ts_34 : Cond.selects RX6 yX6_put yX6_put ∈ lw_T := lw_inS 34 rfl rfl
theorem ts_35 : Cond.selects RX6 yX6_keep yX6_keep ∈ lw_T := lw_inS 35 rfl rfl
theorem ts_36 : Cond.selects RX6 yX6_write yX6_write ∈ lw_T := lw_inS 36 rfl rfl
theorem ts_37 : Cond.selects RX6 yX6_step yX6_step ∈ lw_T := lw_inS 37 rfl rfl
theorem ts_38 : Cond.selects RX6 yX6_latest yX6_latest ∈ lw_T := lw_inS 38 rfl rfl
theorem ts_39 : Cond.selects RX6 yX6_isWrongBehind yX6_isWrongBehind ∈ lw_T := lw_inS 39 rfl rfl
theorem ts_4 : Cond.selects RX5 yX5_clearArea yX5_clearArea ∈ lw_T := lw_inS 4 rfl rfl
theorem ts_40 : Cond.selects RX6 yX6_lockRow yX6_lockRow ∈ lw_T := lw_inS 40 rfl rfl
theorem ts_41 : Cond.selects RX6 yX6_copyRow yX6_copyRow ∈ lw_T := lw_inS 41 rfl rfl
theorem ts_42 : Cond.selects RX6 yX6_holder yX6_holder ∈ lw_T := lw_inS 42 rfl rfl
theorem ts_5 : Cond.selects RX5 yX5_firstSector yX5_firstSector ∈ lw_T := lw_inS 5 rfl rfl
theorem ts_6 : Cond.selects RX0 yX0_addTarget yX0_addTarget ∈ lw_T := lw_inS 6 rfl rfl
theorem ts_7 : Cond.selects RX5 yX5_beginBy yX5_beginBy ∈ lw_T := lw_inS 7 rfl rfl
theorem ts_8 : Cond.selects RX3 yX3_readRow yX3_readRow ∈ lw_T := lw_inS 8 rfl rfl
theorem ts_9 : Cond.selects RX5 yX5_changeHeads yX5_changeHeads ∈ lw_T := lw_inS 9 rfl rfl
theorem t1_0 : (Jvm.Cond.initialized "BuildDiskLaw") ∈ lw_T := lw_in1 0 rfl rfl
theorem t1_1 : (Jvm.Cond.initialized "BuildDisk") ∈ lw_T := lw_in1 1 rfl rfl
theorem t1_100 : (Jvm.Cond.methodLink "BuildDisk$Unkept" (3 : Nat) ({ cls := "java/lang/Object", name := "<init>", desc := "()V" } : Jvm.MethodName)) ∈ lw_T := lw_in1 100 rfl rfl
theorem t1_101 : (Jvm.Cond.fieldLink "BuildDisk$Unkept" (9 : Nat) "BuildDisk$Unkept" "marks" "[Z") ∈ lw_T := lw_in1 101 rfl rfl
theorem t1_102 : (Jvm.Cond.fieldLink "BuildDisk$Unkept" (15 : Nat) "BuildDisk$Unkept" "digests" "[J") ∈ lw_T := lw_in1 102 rfl rfl
theorem t1_103 : (Jvm.Cond.laysFinal "BuildDisk$Unkept" "BuildDisk$Unkept" "marks" "[Z") ∈ lw_T := lw_in1 103 rfl rfl
theorem t1_105 : (Jvm.Cond.laysFinal "BuildDisk$Unkept" "BuildDisk$Unkept" "digests" "[J") ∈ lw_T := lw_in1 105 rfl rfl
theorem t1_108 : (Jvm.Cond.arrayClass Jvm.ClassFile.FieldType.boolean) ∈ lw_T := lw_in1 108 rfl rfl
theorem t1_109 : (Jvm.Cond.fieldLink "BuildDisk" (27 : Nat) "BuildDisk" "disk" "LBuildDisk$Disk;") ∈ lw_T := lw_in1 109 rfl rfl
theorem t1_110 : (Jvm.Cond.fieldLink "BuildDisk" (34 : Nat) "BuildDisk" "table" "LBuildDisk$Table;") ∈ lw_T := lw_in1 110 rfl rfl
theorem t1_111 : (Jvm.Cond.fieldLink "BuildDisk" (41 : Nat) "BuildDisk" "unkept" "LBuildDisk$Unkept;") ∈ lw_T := lw_in1 111 rfl rfl
theorem t1_112 : (Jvm.Cond.fieldLink "BuildDisk" (18 : Nat) "BuildDisk" "areaSectors" "I") ∈ lw_T := lw_in1 112 rfl rfl
theorem t1_113 : (Jvm.Cond.fieldLink "BuildDisk" (55 : Nat) "BuildDisk" "running" "Z") ∈ lw_T := lw_in1 113 rfl rfl
theorem t1_114 : (Jvm.Cond.fieldLink "BuildDisk" (128 : Nat) "BuildDisk" "area" "I") ∈ lw_T := lw_in1 114 rfl rfl
theorem t1_115 : (Jvm.Cond.fieldLink "BuildDisk" (195 : Nat) "BuildDisk" "sequence" "I") ∈ lw_T := lw_in1 115 rfl rfl
theorem t1_116 : (Jvm.Cond.fieldLink "BuildDisk" (83 : Nat) "BuildDisk" "goingEdition" "I") ∈ lw_T := lw_in1 116 rfl rfl
theorem t1_117 : (Jvm.Cond.fieldLink "BuildDisk" (52 : Nat) "BuildDisk" "nextEdition" "I") ∈ lw_T := lw_in1 117 rfl rfl
theorem t1_118 : (Jvm.Cond.fieldLink "BuildDisk" (90 : Nat) "BuildDisk" "wrongAtStart" "I") ∈ lw_T := lw_in1 118 rfl rfl
theorem t1_119 : (Jvm.Cond.fieldLink "BuildDisk" (96 : Nat) "BuildDisk" "fixedEnd" "I") ∈ lw_T := lw_in1 119 rfl rfl
theorem t1_120 : (Jvm.Cond.fieldLink "BuildDisk" (49 : Nat) "BuildDisk" "taken" "I") ∈ lw_T := lw_in1 120 rfl rfl
theorem t1_121 : (Jvm.Cond.fieldLink "BuildDisk" (243 : Nat) "BuildDisk" "copied" "I") ∈ lw_T := lw_in1 121 rfl rfl
theorem t1_122 : (Jvm.Cond.fieldLink "BuildDisk" (45 : Nat) "BuildDisk" "copiedFrom" "[I") ∈ lw_T := lw_in1 122 rfl rfl
theorem t1_123 : (Jvm.Cond.laysFinal "BuildDisk" "BuildDisk" "disk" "LBuildDisk$Disk;") ∈ lw_T := lw_in1 123 rfl rfl
theorem t1_125 : (Jvm.Cond.laysFinal "BuildDisk" "BuildDisk" "table" "LBuildDisk$Table;") ∈ lw_T := lw_in1 125 rfl rfl
theorem t1_127 : (Jvm.Cond.laysFinal "BuildDisk" "BuildDisk" "unkept" "LBuildDisk$Unkept;") ∈ lw_T := lw_in1 127 rfl rfl
theorem t1_129 : (Jvm.Cond.laysFinal "BuildDisk" "BuildDisk" "areaSectors" "I") ∈ lw_T := lw_in1 129 rfl rfl
theorem t1_131 : (Jvm.Cond.lays "BuildDisk" "BuildDisk" "running" "Z") ∈ lw_T := lw_in1 131 rfl rfl
theorem t1_133 : (Jvm.Cond.lays "BuildDisk" "BuildDisk" "area" "I") ∈ lw_T := lw_in1 133 rfl rfl
theorem t1_135 : (Jvm.Cond.lays "BuildDisk" "BuildDisk" "sequence" "I") ∈ lw_T := lw_in1 135 rfl rfl
theorem t1_137 : (Jvm.Cond.lays "BuildDisk" "BuildDisk" "goingEdition" "I") ∈ lw_T := lw_in1 137 rfl rfl
theorem t1_139 : (Jvm.Cond.lays "BuildDisk" "BuildDisk" "nextEdition" "I") ∈ lw_T := lw_in1 139 rfl rfl
theorem t1_14 : (Jvm.Cond.initialized "java/lang/ArrayIndexOutOfBoundsException") ∈ lw_T := lw_in1 14 rfl rfl
theorem t1_141 : (Jvm.Cond.lays "BuildDisk" "BuildDisk" "wrongAtStart" "I") ∈ lw_T := lw_in1 141 rfl rfl
theorem t1_143 : (Jvm.Cond.lays "BuildDisk" "BuildDisk" "fixedEnd" "I") ∈ lw_T := lw_in1 143 rfl rfl
theorem t1_145 : (Jvm.Cond.lays "BuildDisk" "BuildDisk" "taken" "I") ∈ lw_T := lw_in1 145 rfl rfl
theorem t1_147 : (Jvm.Cond.lays "BuildDisk" "BuildDisk" "copied" "I") ∈ lw_T := lw_in1 147 rfl rfl
theorem t1_149 : (Jvm.Cond.laysFinal "BuildDisk" "BuildDisk" "copiedFrom" "[I") ∈ lw_T := lw_in1 149 rfl rfl
theorem t1_15 : (Jvm.Cond.classLink "BuildDiskLaw" (8 : Nat) "BuildDisk") ∈ lw_T := lw_in1 15 rfl rfl
theorem t1_152 : (Jvm.Cond.methodLink "BuildDiskLaw" (27 : Nat) ({ cls := "BuildDisk", name := "start", desc := "()I" } : Jvm.MethodName)) ∈ lw_T := lw_in1 152 rfl rfl
theorem t1_153 : (Jvm.Cond.instanceMethod ({ cls := "BuildDisk", name := "start", desc := "()I" } : Jvm.MethodName)) ∈ lw_T := lw_in1 153 rfl rfl
theorem t1_154 : (Jvm.Cond.selects "BuildDisk" ({ cls := "BuildDisk", name := "start", desc := "()I" } : Jvm.MethodName) ({ cls := "BuildDisk", name := "start", desc := "()I" } : Jvm.MethodName)) ∈ lw_T := lw_in1 154 rfl rfl
theorem t1_155 : (Jvm.Cond.code ({ cls := "BuildDisk", name := "start", desc := "()I" } : Jvm.MethodName) prog_1_method_2_code (2 : Nat) (Option.some Jvm.ClassFile.FieldType.int)) ∈ lw_T := lw_in1 155 rfl rfl
theorem t1_156 : (Jvm.Cond.methodLink "BuildDisk" (63 : Nat) ({ cls := "BuildDisk$Head", name := "counting", desc := "([B)I" } : Jvm.MethodName)) ∈ lw_T := lw_in1 156 rfl rfl
theorem t1_157 : (Jvm.Cond.static ({ cls := "BuildDisk$Head", name := "counting", desc := "([B)I" } : Jvm.MethodName)) ∈ lw_T := lw_in1 157 rfl rfl
theorem t1_158 : (Jvm.Cond.code ({ cls := "BuildDisk$Head", name := "counting", desc := "([B)I" } : Jvm.MethodName) prog_3_method_2_code (3 : Nat) (Option.some Jvm.ClassFile.FieldType.int)) ∈ lw_T := lw_in1 158 rfl rfl
theorem t1_159 : (Jvm.Cond.methodLink "BuildDisk$Head" (9 : Nat) ({ cls := "BuildDisk$Head", name := "isGood", desc := "([BI)Z" } : Jvm.MethodName)) ∈ lw_T := lw_in1 159 rfl rfl
theorem t1_16 : (Jvm.Cond.instantiable "BuildDisk" (14 : Nat)) ∈ lw_T := lw_in1 16 rfl rfl
theorem t1_160 : (Jvm.Cond.static ({ cls := "BuildDisk$Head", name := "isGood", desc := "([BI)Z" } : Jvm.MethodName)) ∈ lw_T := lw_in1 160 rfl rfl
theorem t1_161 : (Jvm.Cond.code ({ cls := "BuildDisk$Head", name := "isGood", desc := "([BI)Z" } : Jvm.MethodName) prog_3_method_3_code (5 : Nat) (Option.some Jvm.ClassFile.FieldType.boolean)) ∈ lw_T := lw_in1 161 rfl rfl
theorem t1_162 : (Jvm.Cond.methodLink "BuildDisk$Head" (19 : Nat) ({ cls := "BuildDisk$Numbers", name := "read", desc := "([BII)J" } : Jvm.MethodName)) ∈ lw_T := lw_in1 162 rfl rfl
theorem t1_163 : (Jvm.Cond.static ({ cls := "BuildDisk$Numbers", name := "read", desc := "([BII)J" } : Jvm.MethodName)) ∈ lw_T := lw_in1 163 rfl rfl
theorem t1_164 : (Jvm.Cond.code ({ cls := "BuildDisk$Numbers", name := "read", desc := "([BII)J" } : Jvm.MethodName) prog_4_method_2_code (6 : Nat) (Option.some Jvm.ClassFile.FieldType.long)) ∈ lw_T := lw_in1 164 rfl rfl
theorem t1_165 : (Jvm.Cond.constantLong "BuildDisk$Head" (25 : Nat) (2000000000 : Int64)) ∈ lw_T := lw_in1 165 rfl rfl
theorem t1_166 : (Jvm.Cond.constantLong "BuildDisk$Head" (27 : Nat) (2 : Int64)) ∈ lw_T := lw_in1 166 rfl rfl
theorem t1_167 : (Jvm.Cond.methodLink "BuildDisk$Head" (29 : Nat) ({ cls := "BuildDisk$Head", name := "areaAt", desc := "([BI)I" } : Jvm.MethodName)) ∈ lw_T := lw_in1 167 rfl rfl
theorem t1_168 : (Jvm.Cond.static ({ cls := "BuildDisk$Head", name := "areaAt", desc := "([BI)I" } : Jvm.MethodName)) ∈ lw_T := lw_in1 168 rfl rfl
theorem t1_169 : (Jvm.Cond.code ({ cls := "BuildDisk$Head", name := "areaAt", desc := "([BI)I" } : Jvm.MethodName) prog_3_method_6_code (2 : Nat) (Option.some Jvm.ClassFile.FieldType.int)) ∈ lw_T := lw_in1 169 rfl rfl
theorem t1_17 : (Jvm.Cond.methodLink "BuildDiskLaw" (21 : Nat) ({ cls := "BuildDisk", name := "<init>", desc := "(I)V" } : Jvm.MethodName)) ∈ lw_T := lw_in1 17 rfl rfl
theorem t1_170 : (Jvm.Cond.methodLink "BuildDisk$Head" (32 : Nat) ({ cls := "BuildDisk$Numbers", name := "hasSum", desc := "([BIII)Z" } : Jvm.MethodName)) ∈ lw_T := lw_in1 170 rfl rfl
theorem t1_171 : (Jvm.Cond.static ({ cls := "BuildDisk$Numbers", name := "hasSum", desc := "([BIII)Z" } : Jvm.MethodName)) ∈ lw_T := lw_in1 171 rfl rfl
theorem t1_172 : (Jvm.Cond.code ({ cls := "BuildDisk$Numbers", name := "hasSum", desc := "([BIII)Z" } : Jvm.MethodName) prog_4_method_5_code (4 : Nat) (Option.some Jvm.ClassFile.FieldType.boolean)) ∈ lw_T := lw_in1 172 rfl rfl
theorem t1_173 : (Jvm.Cond.methodLink "BuildDisk$Numbers" (10 : Nat) ({ cls := "BuildDisk$Numbers", name := "read", desc := "([BII)J" } : Jvm.MethodName)) ∈ lw_T := lw_in1 173 rfl rfl
theorem t1_174 : (Jvm.Cond.methodLink "BuildDisk$Numbers" (14 : Nat) ({ cls := "BuildDisk$Numbers", name := "sum", desc := "([BIII)I" } : Jvm.MethodName)) ∈ lw_T := lw_in1 174 rfl rfl
theorem t1_175 : (Jvm.Cond.static ({ cls := "BuildDisk$Numbers", name := "sum", desc := "([BIII)I" } : Jvm.MethodName)) ∈ lw_T := lw_in1 175 rfl rfl
theorem t1_176 : (Jvm.Cond.code ({ cls := "BuildDisk$Numbers", name := "sum", desc := "([BIII)I" } : Jvm.MethodName) prog_4_method_4_code (7 : Nat) (Option.some Jvm.ClassFile.FieldType.int)) ∈ lw_T := lw_in1 176 rfl rfl
theorem t1_177 : (Jvm.Cond.constant "BuildDisk$Numbers" (9 : Nat) (-2048144777 : Int32)) ∈ lw_T := lw_in1 177 rfl rfl
theorem t1_178 : (Jvm.Cond.methodLink "BuildDisk$Head" (15 : Nat) ({ cls := "BuildDisk$Head", name := "sequenceAt", desc := "([BI)I" } : Jvm.MethodName)) ∈ lw_T := lw_in1 178 rfl rfl
theorem t1_179 : (Jvm.Cond.static ({ cls := "BuildDisk$Head", name := "sequenceAt", desc := "([BI)I" } : Jvm.MethodName)) ∈ lw_T := lw_in1 179 rfl rfl
theorem t1_18 : (Jvm.Cond.instanceMethod ({ cls := "BuildDisk", name := "<init>", desc := "(I)V" } : Jvm.MethodName)) ∈ lw_T := lw_in1 18 rfl rfl
theorem t1_180 : (Jvm.Cond.code ({ cls := "BuildDisk$Head", name := "sequenceAt", desc := "([BI)I" } : Jvm.MethodName) prog_3_method_5_code (2 : Nat) (Option.some Jvm.ClassFile.FieldType.int)) ∈ lw_T := lw_in1 180 rfl rfl
theorem t1_181 : (Jvm.Cond.methodLink "BuildDisk" (69 : Nat) ({ cls := "BuildDisk$Head", name := "editionAt", desc := "([BI)J" } : Jvm.MethodName)) ∈ lw_T := lw_in1 181 rfl rfl
theorem t1_182 : (Jvm.Cond.static ({ cls := "BuildDisk$Head", name := "editionAt", desc := "([BI)J" } : Jvm.MethodName)) ∈ lw_T := lw_in1 182 rfl rfl
theorem t1_183 : (Jvm.Cond.code ({ cls := "BuildDisk$Head", name := "editionAt", desc := "([BI)J" } : Jvm.MethodName) prog_3_method_4_code (2 : Nat) (Option.some Jvm.ClassFile.FieldType.long)) ∈ lw_T := lw_in1 183 rfl rfl
theorem t1_184 : (Jvm.Cond.methodLink "BuildDisk" (73 : Nat) ({ cls := "BuildDisk", name := "fitsEdition", desc := "(J)Z" } : Jvm.MethodName)) ∈ lw_T := lw_in1 184 rfl rfl
theorem t1_186 : (Jvm.Cond.instanceMethod ({ cls := "BuildDisk", name := "fitsEdition", desc := "(J)Z" } : Jvm.MethodName)) ∈ lw_T := lw_in1 186 rfl rfl
theorem t1_187 : (Jvm.Cond.code ({ cls := "BuildDisk", name := "fitsEdition", desc := "(J)Z" } : Jvm.MethodName) prog_1_method_19_code (3 : Nat) (Option.some Jvm.ClassFile.FieldType.boolean)) ∈ lw_T := lw_in1 187 rfl rfl
theorem t1_188 : (Jvm.Cond.methodLink "BuildDisk" (77 : Nat) ({ cls := "BuildDisk", name := "beginEmpty", desc := "()V" } : Jvm.MethodName)) ∈ lw_T := lw_in1 188 rfl rfl
theorem t1_19 : (Jvm.Cond.code ({ cls := "BuildDisk", name := "<init>", desc := "(I)V" } : Jvm.MethodName) prog_1_method_1_code (4 : Nat) (Option.none : Option Jvm.ClassFile.FieldType)) ∈ lw_T := lw_in1 19 rfl rfl
theorem t1_190 : (Jvm.Cond.instanceMethod ({ cls := "BuildDisk", name := "beginEmpty", desc := "()V" } : Jvm.MethodName)) ∈ lw_T := lw_in1 190 rfl rfl
theorem t1_191 : (Jvm.Cond.code ({ cls := "BuildDisk", name := "beginEmpty", desc := "()V" } : Jvm.MethodName) prog_1_method_20_code (1 : Nat) (Option.none : Option Jvm.ClassFile.FieldType)) ∈ lw_T := lw_in1 191 rfl rfl
theorem t1_192 : (Jvm.Cond.methodLink "BuildDisk" (198 : Nat) ({ cls := "BuildDisk$Table", name := "clear", desc := "()V" } : Jvm.MethodName)) ∈ lw_T := lw_in1 192 rfl rfl
theorem t1_193 : (Jvm.Cond.instanceMethod ({ cls := "BuildDisk$Table", name := "clear", desc := "()V" } : Jvm.MethodName)) ∈ lw_T := lw_in1 193 rfl rfl
theorem t1_194 : (Jvm.Cond.selects "BuildDisk$Table" ({ cls := "BuildDisk$Table", name := "clear", desc := "()V" } : Jvm.MethodName) ({ cls := "BuildDisk$Table", name := "clear", desc := "()V" } : Jvm.MethodName)) ∈ lw_T := lw_in1 194 rfl rfl
theorem t1_195 : (Jvm.Cond.code ({ cls := "BuildDisk$Table", name := "clear", desc := "()V" } : Jvm.MethodName) prog_5_method_16_code (1 : Nat) (Option.none : Option Jvm.ClassFile.FieldType)) ∈ lw_T := lw_in1 195 rfl rfl
theorem t1_196 : (Jvm.Cond.methodLink "BuildDisk$Table" (48 : Nat) ({ cls := "BuildDisk$Table", name := "index", desc := "()V" } : Jvm.MethodName)) ∈ lw_T := lw_in1 196 rfl rfl
theorem t1_198 : (Jvm.Cond.instanceMethod ({ cls := "BuildDisk$Table", name := "index", desc := "()V" } : Jvm.MethodName)) ∈ lw_T := lw_in1 198 rfl rfl
theorem t1_199 : (Jvm.Cond.code ({ cls := "BuildDisk$Table", name := "index", desc := "()V" } : Jvm.MethodName) prog_5_method_26_code (2 : Nat) (Option.none : Option Jvm.ClassFile.FieldType)) ∈ lw_T := lw_in1 199 rfl rfl
theorem t1_2 : (Jvm.Cond.initialized "java/lang/Math") ∈ lw_T := lw_in1 2 rfl rfl
theorem t1_20 : (Jvm.Cond.methodLink "BuildDisk" (1 : Nat) ({ cls := "java/lang/Object", name := "<init>", desc := "()V" } : Jvm.MethodName)) ∈ lw_T := lw_in1 20 rfl rfl
theorem t1_200 : (Jvm.Cond.methodLink "BuildDisk$Table" (59 : Nat) ({ cls := "BuildDisk$Table", name := "indexPlace", desc := "(I)V" } : Jvm.MethodName)) ∈ lw_T := lw_in1 200 rfl rfl
theorem t1_202 : (Jvm.Cond.instanceMethod ({ cls := "BuildDisk$Table", name := "indexPlace", desc := "(I)V" } : Jvm.MethodName)) ∈ lw_T := lw_in1 202 rfl rfl
theorem t1_203 : (Jvm.Cond.code ({ cls := "BuildDisk$Table", name := "indexPlace", desc := "(I)V" } : Jvm.MethodName) prog_5_method_27_code (2 : Nat) (Option.none : Option Jvm.ClassFile.FieldType)) ∈ lw_T := lw_in1 203 rfl rfl
theorem t1_204 : (Jvm.Cond.methodLink "BuildDisk" (201 : Nat) ({ cls := "BuildDisk", name := "clearArea", desc := "(I)V" } : Jvm.MethodName)) ∈ lw_T := lw_in1 204 rfl rfl
theorem t1_206 : (Jvm.Cond.instanceMethod ({ cls := "BuildDisk", name := "clearArea", desc := "(I)V" } : Jvm.MethodName)) ∈ lw_T := lw_in1 206 rfl rfl
theorem t1_207 : (Jvm.Cond.code ({ cls := "BuildDisk", name := "clearArea", desc := "(I)V" } : Jvm.MethodName) prog_1_method_23_code (4 : Nat) (Option.none : Option Jvm.ClassFile.FieldType)) ∈ lw_T := lw_in1 207 rfl rfl
theorem t1_208 : (Jvm.Cond.methodLink "BuildDisk" (211 : Nat) ({ cls := "BuildDisk", name := "firstSector", desc := "(I)I" } : Jvm.MethodName)) ∈ lw_T := lw_in1 208 rfl rfl
theorem t1_21 : (Jvm.Cond.instanceMethod ({ cls := "java/lang/Object", name := "<init>", desc := "()V" } : Jvm.MethodName)) ∈ lw_T := lw_in1 21 rfl rfl
theorem t1_210 : (Jvm.Cond.instanceMethod ({ cls := "BuildDisk", name := "firstSector", desc := "(I)I" } : Jvm.MethodName)) ∈ lw_T := lw_in1 210 rfl rfl
theorem t1_211 : (Jvm.Cond.code ({ cls := "BuildDisk", name := "firstSector", desc := "(I)I" } : Jvm.MethodName) prog_1_method_22_code (2 : Nat) (Option.some Jvm.ClassFile.FieldType.int)) ∈ lw_T := lw_in1 211 rfl rfl
theorem t1_212 : (Jvm.Cond.methodLink "BuildDisk" (218 : Nat) ({ cls := "BuildDisk$Disk", name := "waitWithZeros", desc := "(I)I" } : Jvm.MethodName)) ∈ lw_T := lw_in1 212 rfl rfl
theorem t1_213 : (Jvm.Cond.instanceMethod ({ cls := "BuildDisk$Disk", name := "waitWithZeros", desc := "(I)I" } : Jvm.MethodName)) ∈ lw_T := lw_in1 213 rfl rfl
theorem t1_214 : (Jvm.Cond.selects "BuildDisk$Disk" ({ cls := "BuildDisk$Disk", name := "waitWithZeros", desc := "(I)I" } : Jvm.MethodName) ({ cls := "BuildDisk$Disk", name := "waitWithZeros", desc := "(I)I" } : Jvm.MethodName)) ∈ lw_T := lw_in1 214 rfl rfl
theorem t1_215 : (Jvm.Cond.code ({ cls := "BuildDisk$Disk", name := "waitWithZeros", desc := "(I)I" } : Jvm.MethodName) prog_2_method_3_code (4 : Nat) (Option.some Jvm.ClassFile.FieldType.int)) ∈ lw_T := lw_in1 215 rfl rfl
theorem t1_216 : (Jvm.Cond.methodLink "BuildDisk$Disk" (30 : Nat) ({ cls := "BuildDisk$Disk", name := "bring", desc := "(II)I" } : Jvm.MethodName)) ∈ lw_T := lw_in1 216 rfl rfl
theorem t1_217 : (Jvm.Cond.instanceMethod ({ cls := "BuildDisk$Disk", name := "bring", desc := "(II)I" } : Jvm.MethodName)) ∈ lw_T := lw_in1 217 rfl rfl
theorem t1_218 : (Jvm.Cond.selects "BuildDisk$Disk" ({ cls := "BuildDisk$Disk", name := "bring", desc := "(II)I" } : Jvm.MethodName) ({ cls := "BuildDisk$Disk", name := "bring", desc := "(II)I" } : Jvm.MethodName)) ∈ lw_T := lw_in1 218 rfl rfl
theorem t1_219 : (Jvm.Cond.code ({ cls := "BuildDisk$Disk", name := "bring", desc := "(II)I" } : Jvm.MethodName) prog_2_method_5_code (6 : Nat) (Option.some Jvm.ClassFile.FieldType.int)) ∈ lw_T := lw_in1 219 rfl rfl
theorem t1_22 : (Jvm.Cond.code ({ cls := "java/lang/Object", name := "<init>", desc := "()V" } : Jvm.MethodName) object_method_1_code (1 : Nat) (Option.none : Option Jvm.ClassFile.FieldType)) ∈ lw_T := lw_in1 22 rfl rfl
theorem t1_220 : (Jvm.Cond.methodLink "BuildDisk$Disk" (47 : Nat) ({ cls := "java/lang/Math", name := "min", desc := "(II)I" } : Jvm.MethodName)) ∈ lw_T := lw_in1 220 rfl rfl
theorem t1_221 : (Jvm.Cond.methodLink "BuildDisk$Disk" (41 : Nat) ({ cls := "java/lang/System", name := "arraycopy", desc := "(Ljava/lang/Object;ILjava/lang/Object;II)V" } : Jvm.MethodName)) ∈ lw_T := lw_in1 221 rfl rfl
theorem t1_222 : (Jvm.Cond.static ({ cls := "java/lang/System", name := "arraycopy", desc := "(Ljava/lang/Object;ILjava/lang/Object;II)V" } : Jvm.MethodName)) ∈ lw_T := lw_in1 222 rfl rfl
theorem t1_223 : (Jvm.Cond.native ({ cls := "java/lang/System", name := "arraycopy", desc := "(Ljava/lang/Object;ILjava/lang/Object;II)V" } : Jvm.MethodName)) ∈ lw_T := lw_in1 223 rfl rfl
theorem t1_224 : (Jvm.Cond.methodLink "BuildDisk$Disk" (34 : Nat) ({ cls := "BuildDisk$Disk", name := "addTarget", desc := "(I)I" } : Jvm.MethodName)) ∈ lw_T := lw_in1 224 rfl rfl
theorem t1_226 : (Jvm.Cond.instanceMethod ({ cls := "BuildDisk$Disk", name := "addTarget", desc := "(I)I" } : Jvm.MethodName)) ∈ lw_T := lw_in1 226 rfl rfl
theorem t1_227 : (Jvm.Cond.code ({ cls := "BuildDisk$Disk", name := "addTarget", desc := "(I)I" } : Jvm.MethodName) prog_2_method_6_code (3 : Nat) (Option.some Jvm.ClassFile.FieldType.int)) ∈ lw_T := lw_in1 227 rfl rfl
theorem t1_228 : (Jvm.Cond.methodLink "BuildDisk" (80 : Nat) ({ cls := "BuildDisk", name := "beginBy", desc := "(I)V" } : Jvm.MethodName)) ∈ lw_T := lw_in1 228 rfl rfl
theorem t1_23 : (Jvm.Cond.methodLink "BuildDisk" (9 : Nat) ({ cls := "java/lang/Math", name := "max", desc := "(II)I" } : Jvm.MethodName)) ∈ lw_T := lw_in1 23 rfl rfl
theorem t1_230 : (Jvm.Cond.instanceMethod ({ cls := "BuildDisk", name := "beginBy", desc := "(I)V" } : Jvm.MethodName)) ∈ lw_T := lw_in1 230 rfl rfl
theorem t1_231 : (Jvm.Cond.code ({ cls := "BuildDisk", name := "beginBy", desc := "(I)V" } : Jvm.MethodName) prog_1_method_21_code (2 : Nat) (Option.none : Option Jvm.ClassFile.FieldType)) ∈ lw_T := lw_in1 231 rfl rfl
theorem t1_232 : (Jvm.Cond.methodLink "BuildDisk" (204 : Nat) ({ cls := "BuildDisk$Head", name := "sequenceAt", desc := "([BI)I" } : Jvm.MethodName)) ∈ lw_T := lw_in1 232 rfl rfl
theorem t1_233 : (Jvm.Cond.methodLink "BuildDisk" (208 : Nat) ({ cls := "BuildDisk$Head", name := "areaAt", desc := "([BI)I" } : Jvm.MethodName)) ∈ lw_T := lw_in1 233 rfl rfl
theorem t1_234 : (Jvm.Cond.methodLink "BuildDisk" (214 : Nat) ({ cls := "BuildDisk$Table", name := "read", desc := "([BI)V" } : Jvm.MethodName)) ∈ lw_T := lw_in1 234 rfl rfl
theorem t1_235 : (Jvm.Cond.instanceMethod ({ cls := "BuildDisk$Table", name := "read", desc := "([BI)V" } : Jvm.MethodName)) ∈ lw_T := lw_in1 235 rfl rfl
theorem t1_236 : (Jvm.Cond.selects "BuildDisk$Table" ({ cls := "BuildDisk$Table", name := "read", desc := "([BI)V" } : Jvm.MethodName) ({ cls := "BuildDisk$Table", name := "read", desc := "([BI)V" } : Jvm.MethodName)) ∈ lw_T := lw_in1 236 rfl rfl
theorem t1_237 : (Jvm.Cond.code ({ cls := "BuildDisk$Table", name := "read", desc := "([BI)V" } : Jvm.MethodName) prog_5_method_17_code (5 : Nat) (Option.none : Option Jvm.ClassFile.FieldType)) ∈ lw_T := lw_in1 237 rfl rfl
theorem t1_238 : (Jvm.Cond.methodLink "BuildDisk$Table" (51 : Nat) ({ cls := "BuildDisk$Table", name := "isRow", desc := "([BII)Z" } : Jvm.MethodName)) ∈ lw_T := lw_in1 238 rfl rfl
theorem t1_239 : (Jvm.Cond.static ({ cls := "BuildDisk$Table", name := "isRow", desc := "([BII)Z" } : Jvm.MethodName)) ∈ lw_T := lw_in1 239 rfl rfl
theorem t1_24 : (Jvm.Cond.static ({ cls := "java/lang/Math", name := "max", desc := "(II)I" } : Jvm.MethodName)) ∈ lw_T := lw_in1 24 rfl rfl
theorem t1_25 : (Jvm.Cond.code ({ cls := "java/lang/Math", name := "max", desc := "(II)I" } : Jvm.MethodName) prog_12_method_65_code (2 : Nat) (Option.some Jvm.ClassFile.FieldType.int)) ∈ lw_T := lw_in1 25 rfl rfl
theorem t1_26 : (Jvm.Cond.methodLink "BuildDisk" (15 : Nat) ({ cls := "java/lang/Math", name := "min", desc := "(II)I" } : Jvm.MethodName)) ∈ lw_T := lw_in1 26 rfl rfl
theorem t1_27 : (Jvm.Cond.static ({ cls := "java/lang/Math", name := "min", desc := "(II)I" } : Jvm.MethodName)) ∈ lw_T := lw_in1 27 rfl rfl
theorem t1_28 : (Jvm.Cond.code ({ cls := "java/lang/Math", name := "min", desc := "(II)I" } : Jvm.MethodName) prog_12_method_69_code (2 : Nat) (Option.some Jvm.ClassFile.FieldType.int)) ∈ lw_T := lw_in1 28 rfl rfl
theorem t1_29 : (Jvm.Cond.classLink "BuildDisk" (22 : Nat) "BuildDisk$Disk") ∈ lw_T := lw_in1 29 rfl rfl
theorem t1_3 : (Jvm.Cond.initialized "BuildDisk$Disk") ∈ lw_T := lw_in1 3 rfl rfl
theorem t1_30 : (Jvm.Cond.instantiable "BuildDisk$Disk" (5 : Nat)) ∈ lw_T := lw_in1 30 rfl rfl
theorem t1_31 : (Jvm.Cond.methodLink "BuildDisk" (24 : Nat) ({ cls := "BuildDisk$Disk", name := "<init>", desc := "(I)V" } : Jvm.MethodName)) ∈ lw_T := lw_in1 31 rfl rfl
theorem t1_32 : (Jvm.Cond.instanceMethod ({ cls := "BuildDisk$Disk", name := "<init>", desc := "(I)V" } : Jvm.MethodName)) ∈ lw_T := lw_in1 32 rfl rfl
theorem t1_33 : (Jvm.Cond.code ({ cls := "BuildDisk$Disk", name := "<init>", desc := "(I)V" } : Jvm.MethodName) prog_2_method_1_code (2 : Nat) (Option.none : Option Jvm.ClassFile.FieldType)) ∈ lw_T := lw_in1 33 rfl rfl
theorem t1_34 : (Jvm.Cond.methodLink "BuildDisk$Disk" (3 : Nat) ({ cls := "java/lang/Object", name := "<init>", desc := "()V" } : Jvm.MethodName)) ∈ lw_T := lw_in1 34 rfl rfl
theorem t1_35 : (Jvm.Cond.constant "BuildDisk$Disk" (19 : Nat) (32768 : Int32)) ∈ lw_T := lw_in1 35 rfl rfl
theorem t1_36 : (Jvm.Cond.fieldLink "BuildDisk$Disk" (9 : Nat) "BuildDisk$Disk" "sectors" "I") ∈ lw_T := lw_in1 36 rfl rfl
theorem t1_37 : (Jvm.Cond.fieldLink "BuildDisk" (167 : Nat) "BuildDisk$Disk" "sectors" "I") ∈ lw_T := lw_in1 37 rfl rfl
theorem t1_38 : (Jvm.Cond.fieldLink "BuildDisk$Disk" (15 : Nat) "BuildDisk$Disk" "bytes" "[B") ∈ lw_T := lw_in1 38 rfl rfl
theorem t1_39 : (Jvm.Cond.fieldLink "BuildDisk" (59 : Nat) "BuildDisk$Disk" "bytes" "[B") ∈ lw_T := lw_in1 39 rfl rfl
theorem t1_4 : (Jvm.Cond.initialized "BuildDisk$Table") ∈ lw_T := lw_in1 4 rfl rfl
theorem t1_40 : (Jvm.Cond.fieldLink "BuildDisk$Disk" (20 : Nat) "BuildDisk$Disk" "queue" "[B") ∈ lw_T := lw_in1 40 rfl rfl
theorem t1_41 : (Jvm.Cond.fieldLink "BuildDisk" (224 : Nat) "BuildDisk$Disk" "queue" "[B") ∈ lw_T := lw_in1 41 rfl rfl
theorem t1_42 : (Jvm.Cond.fieldLink "BuildDisk$Disk" (23 : Nat) "BuildDisk$Disk" "targets" "[I") ∈ lw_T := lw_in1 42 rfl rfl
theorem t1_43 : (Jvm.Cond.fieldLink "BuildDisk$Disk" (27 : Nat) "BuildDisk$Disk" "waitCount" "I") ∈ lw_T := lw_in1 43 rfl rfl
theorem t1_44 : (Jvm.Cond.laysFinal "BuildDisk$Disk" "BuildDisk$Disk" "sectors" "I") ∈ lw_T := lw_in1 44 rfl rfl
theorem t1_46 : (Jvm.Cond.laysFinal "BuildDisk$Disk" "BuildDisk$Disk" "bytes" "[B") ∈ lw_T := lw_in1 46 rfl rfl
theorem t1_48 : (Jvm.Cond.laysFinal "BuildDisk$Disk" "BuildDisk$Disk" "queue" "[B") ∈ lw_T := lw_in1 48 rfl rfl
theorem t1_5 : (Jvm.Cond.initialized "BuildDisk$Unkept") ∈ lw_T := lw_in1 5 rfl rfl
theorem t1_50 : (Jvm.Cond.laysFinal "BuildDisk$Disk" "BuildDisk$Disk" "targets" "[I") ∈ lw_T := lw_in1 50 rfl rfl
theorem t1_52 : (Jvm.Cond.lays "BuildDisk$Disk" "BuildDisk$Disk" "waitCount" "I") ∈ lw_T := lw_in1 52 rfl rfl
theorem t1_55 : (Jvm.Cond.arrayClass Jvm.ClassFile.FieldType.byte) ∈ lw_T := lw_in1 55 rfl rfl
theorem t1_56 : (Jvm.Cond.arrayClass Jvm.ClassFile.FieldType.int) ∈ lw_T := lw_in1 56 rfl rfl
theorem t1_57 : (Jvm.Cond.classLink "BuildDisk" (31 : Nat) "BuildDisk$Table") ∈ lw_T := lw_in1 57 rfl rfl
theorem t1_58 : (Jvm.Cond.instantiable "BuildDisk$Table" (10 : Nat)) ∈ lw_T := lw_in1 58 rfl rfl
theorem t1_59 : (Jvm.Cond.methodLink "BuildDisk" (33 : Nat) ({ cls := "BuildDisk$Table", name := "<init>", desc := "(I)V" } : Jvm.MethodName)) ∈ lw_T := lw_in1 59 rfl rfl
theorem t1_6 : (Jvm.Cond.initialized "BuildDiskModel") ∈ lw_T := lw_in1 6 rfl rfl
theorem t1_60 : (Jvm.Cond.instanceMethod ({ cls := "BuildDisk$Table", name := "<init>", desc := "(I)V" } : Jvm.MethodName)) ∈ lw_T := lw_in1 60 rfl rfl
theorem t1_61 : (Jvm.Cond.code ({ cls := "BuildDisk$Table", name := "<init>", desc := "(I)V" } : Jvm.MethodName) prog_5_method_1_code (2 : Nat) (Option.none : Option Jvm.ClassFile.FieldType)) ∈ lw_T := lw_in1 61 rfl rfl
theorem t1_62 : (Jvm.Cond.methodLink "BuildDisk$Table" (3 : Nat) ({ cls := "java/lang/Object", name := "<init>", desc := "()V" } : Jvm.MethodName)) ∈ lw_T := lw_in1 62 rfl rfl
theorem t1_63 : (Jvm.Cond.fieldLink "BuildDisk$Table" (9 : Nat) "BuildDisk$Table" "kinds" "[I") ∈ lw_T := lw_in1 63 rfl rfl
theorem t1_64 : (Jvm.Cond.fieldLink "BuildDisk$Table" (15 : Nat) "BuildDisk$Table" "names" "[I") ∈ lw_T := lw_in1 64 rfl rfl
theorem t1_65 : (Jvm.Cond.fieldLink "BuildDisk$Table" (18 : Nat) "BuildDisk$Table" "askCounts" "[I") ∈ lw_T := lw_in1 65 rfl rfl
theorem t1_66 : (Jvm.Cond.fieldLink "BuildDisk$Table" (21 : Nat) "BuildDisk$Table" "askKeys" "[I") ∈ lw_T := lw_in1 66 rfl rfl
theorem t1_67 : (Jvm.Cond.fieldLink "BuildDisk$Table" (24 : Nat) "BuildDisk$Table" "digests" "[J") ∈ lw_T := lw_in1 67 rfl rfl
theorem t1_68 : (Jvm.Cond.fieldLink "BuildDisk$Table" (28 : Nat) "BuildDisk$Table" "latestPlaces" "[I") ∈ lw_T := lw_in1 68 rfl rfl
theorem t1_69 : (Jvm.Cond.fieldLink "BuildDisk$Table" (41 : Nat) "BuildDisk$Table" "lockPlace" "I") ∈ lw_T := lw_in1 69 rfl rfl
theorem t1_7 : (Jvm.Cond.initialized "BuildDisk$Head") ∈ lw_T := lw_in1 7 rfl rfl
theorem t1_70 : (Jvm.Cond.fieldLink "BuildDisk$Table" (31 : Nat) "BuildDisk$Table" "rowsEnd" "I") ∈ lw_T := lw_in1 70 rfl rfl
theorem t1_71 : (Jvm.Cond.fieldLink "BuildDisk$Table" (35 : Nat) "BuildDisk$Table" "wrongPlaces" "I") ∈ lw_T := lw_in1 71 rfl rfl
theorem t1_72 : (Jvm.Cond.fieldLink "BuildDisk$Table" (38 : Nat) "BuildDisk$Table" "lastWrong" "I") ∈ lw_T := lw_in1 72 rfl rfl
theorem t1_73 : (Jvm.Cond.laysFinal "BuildDisk$Table" "BuildDisk$Table" "kinds" "[I") ∈ lw_T := lw_in1 73 rfl rfl
theorem t1_75 : (Jvm.Cond.laysFinal "BuildDisk$Table" "BuildDisk$Table" "names" "[I") ∈ lw_T := lw_in1 75 rfl rfl
theorem t1_77 : (Jvm.Cond.laysFinal "BuildDisk$Table" "BuildDisk$Table" "askCounts" "[I") ∈ lw_T := lw_in1 77 rfl rfl
theorem t1_79 : (Jvm.Cond.laysFinal "BuildDisk$Table" "BuildDisk$Table" "askKeys" "[I") ∈ lw_T := lw_in1 79 rfl rfl
theorem t1_8 : (Jvm.Cond.initialized "BuildDisk$Numbers") ∈ lw_T := lw_in1 8 rfl rfl
theorem t1_81 : (Jvm.Cond.laysFinal "BuildDisk$Table" "BuildDisk$Table" "digests" "[J") ∈ lw_T := lw_in1 81 rfl rfl
theorem t1_83 : (Jvm.Cond.laysFinal "BuildDisk$Table" "BuildDisk$Table" "latestPlaces" "[I") ∈ lw_T := lw_in1 83 rfl rfl
theorem t1_85 : (Jvm.Cond.lays "BuildDisk$Table" "BuildDisk$Table" "lockPlace" "I") ∈ lw_T := lw_in1 85 rfl rfl
theorem t1_87 : (Jvm.Cond.lays "BuildDisk$Table" "BuildDisk$Table" "rowsEnd" "I") ∈ lw_T := lw_in1 87 rfl rfl
theorem t1_89 : (Jvm.Cond.lays "BuildDisk$Table" "BuildDisk$Table" "wrongPlaces" "I") ∈ lw_T := lw_in1 89 rfl rfl
theorem t1_9 : (Jvm.Cond.initialized "java/lang/System") ∈ lw_T := lw_in1 9 rfl rfl
theorem t1_91 : (Jvm.Cond.lays "BuildDisk$Table" "BuildDisk$Table" "lastWrong" "I") ∈ lw_T := lw_in1 91 rfl rfl
theorem t1_94 : (Jvm.Cond.arrayClass Jvm.ClassFile.FieldType.long) ∈ lw_T := lw_in1 94 rfl rfl
theorem t1_95 : (Jvm.Cond.classLink "BuildDisk" (38 : Nat) "BuildDisk$Unkept") ∈ lw_T := lw_in1 95 rfl rfl
theorem t1_96 : (Jvm.Cond.instantiable "BuildDisk$Unkept" (2 : Nat)) ∈ lw_T := lw_in1 96 rfl rfl
theorem t1_97 : (Jvm.Cond.methodLink "BuildDisk" (40 : Nat) ({ cls := "BuildDisk$Unkept", name := "<init>", desc := "()V" } : Jvm.MethodName)) ∈ lw_T := lw_in1 97 rfl rfl
theorem t1_98 : (Jvm.Cond.instanceMethod ({ cls := "BuildDisk$Unkept", name := "<init>", desc := "()V" } : Jvm.MethodName)) ∈ lw_T := lw_in1 98 rfl rfl
theorem t1_99 : (Jvm.Cond.code ({ cls := "BuildDisk$Unkept", name := "<init>", desc := "()V" } : Jvm.MethodName) prog_6_method_1_code (1 : Nat) (Option.none : Option Jvm.ClassFile.FieldType)) ∈ lw_T := lw_in1 99 rfl rfl
theorem t2_0 : (Jvm.Cond.code ({ cls := "BuildDisk$Table", name := "isRow", desc := "([BII)Z" } : Jvm.MethodName) prog_5_method_22_code (6 : Nat) (Option.some Jvm.ClassFile.FieldType.boolean)) ∈ lw_T := lw_in2 0 rfl rfl
theorem t2_1 : (Jvm.Cond.methodLink "BuildDisk$Table" (81 : Nat) ({ cls := "BuildDisk$Table", name := "isKey", desc := "(I)Z" } : Jvm.MethodName)) ∈ lw_T := lw_in2 1 rfl rfl
theorem t2_10 : (Jvm.Cond.methodLink "BuildDisk$Table" (90 : Nat) ({ cls := "BuildDisk$Numbers", name := "hasSum", desc := "([BIII)Z" } : Jvm.MethodName)) ∈ lw_T := lw_in2 10 rfl rfl
theorem t2_100 : (Jvm.Cond.methodLink "BuildDisk" (124 : Nat) ({ cls := "BuildDisk$Table", name := "addAsk", desc := "(II)V" } : Jvm.MethodName)) ∈ lw_T := lw_in2 100 rfl rfl
theorem t2_101 : (Jvm.Cond.instanceMethod ({ cls := "BuildDisk$Table", name := "addAsk", desc := "(II)V" } : Jvm.MethodName)) ∈ lw_T := lw_in2 101 rfl rfl
theorem t2_102 : (Jvm.Cond.selects "BuildDisk$Table" ({ cls := "BuildDisk$Table", name := "addAsk", desc := "(II)V" } : Jvm.MethodName) ({ cls := "BuildDisk$Table", name := "addAsk", desc := "(II)V" } : Jvm.MethodName)) ∈ lw_T := lw_in2 102 rfl rfl
theorem t2_103 : (Jvm.Cond.code ({ cls := "BuildDisk$Table", name := "addAsk", desc := "(II)V" } : Jvm.MethodName) prog_5_method_19_code (3 : Nat) (Option.none : Option Jvm.ClassFile.FieldType)) ∈ lw_T := lw_in2 103 rfl rfl
theorem t2_104 : (Jvm.Cond.methodLink "BuildDiskLaw" (44 : Nat) ({ cls := "BuildDisk", name := "sync", desc := "()I" } : Jvm.MethodName)) ∈ lw_T := lw_in2 104 rfl rfl
theorem t2_105 : (Jvm.Cond.instanceMethod ({ cls := "BuildDisk", name := "sync", desc := "()I" } : Jvm.MethodName)) ∈ lw_T := lw_in2 105 rfl rfl
theorem t2_106 : (Jvm.Cond.selects "BuildDisk" ({ cls := "BuildDisk", name := "sync", desc := "()I" } : Jvm.MethodName) ({ cls := "BuildDisk", name := "sync", desc := "()I" } : Jvm.MethodName)) ∈ lw_T := lw_in2 106 rfl rfl
theorem t2_107 : (Jvm.Cond.code ({ cls := "BuildDisk", name := "sync", desc := "()I" } : Jvm.MethodName) prog_1_method_5_code (1 : Nat) (Option.some Jvm.ClassFile.FieldType.int)) ∈ lw_T := lw_in2 107 rfl rfl
theorem t2_108 : (Jvm.Cond.methodLink "BuildDisk" (135 : Nat) ({ cls := "BuildDisk$Disk", name := "bring", desc := "(II)I" } : Jvm.MethodName)) ∈ lw_T := lw_in2 108 rfl rfl
theorem t2_109 : (Jvm.Cond.methodLink "BuildDiskLaw" (48 : Nat) ({ cls := "BuildDisk", name := "compact", desc := "(I)I" } : Jvm.MethodName)) ∈ lw_T := lw_in2 109 rfl rfl
theorem t2_11 : (Jvm.Cond.methodLink "BuildDisk$Table" (55 : Nat) ({ cls := "BuildDisk$Table", name := "readRow", desc := "([BII)V" } : Jvm.MethodName)) ∈ lw_T := lw_in2 11 rfl rfl
theorem t2_110 : (Jvm.Cond.instanceMethod ({ cls := "BuildDisk", name := "compact", desc := "(I)I" } : Jvm.MethodName)) ∈ lw_T := lw_in2 110 rfl rfl
theorem t2_111 : (Jvm.Cond.selects "BuildDisk" ({ cls := "BuildDisk", name := "compact", desc := "(I)I" } : Jvm.MethodName) ({ cls := "BuildDisk", name := "compact", desc := "(I)I" } : Jvm.MethodName)) ∈ lw_T := lw_in2 111 rfl rfl
theorem t2_112 : (Jvm.Cond.code ({ cls := "BuildDisk", name := "compact", desc := "(I)I" } : Jvm.MethodName) prog_1_method_6_code (4 : Nat) (Option.some Jvm.ClassFile.FieldType.int)) ∈ lw_T := lw_in2 112 rfl rfl
theorem t2_113 : (Jvm.Cond.methodLink "BuildDisk" (138 : Nat) ({ cls := "BuildDisk", name := "doStep", desc := "()Z" } : Jvm.MethodName)) ∈ lw_T := lw_in2 113 rfl rfl
theorem t2_115 : (Jvm.Cond.instanceMethod ({ cls := "BuildDisk", name := "doStep", desc := "()Z" } : Jvm.MethodName)) ∈ lw_T := lw_in2 115 rfl rfl
theorem t2_116 : (Jvm.Cond.code ({ cls := "BuildDisk", name := "doStep", desc := "()Z" } : Jvm.MethodName) prog_1_method_28_code (1 : Nat) (Option.some Jvm.ClassFile.FieldType.boolean)) ∈ lw_T := lw_in2 116 rfl rfl
theorem t2_117 : (Jvm.Cond.methodLink "BuildDisk" (246 : Nat) ({ cls := "BuildDisk", name := "takePlace", desc := "(I)V" } : Jvm.MethodName)) ∈ lw_T := lw_in2 117 rfl rfl
theorem t2_119 : (Jvm.Cond.instanceMethod ({ cls := "BuildDisk", name := "takePlace", desc := "(I)V" } : Jvm.MethodName)) ∈ lw_T := lw_in2 119 rfl rfl
theorem t2_120 : (Jvm.Cond.code ({ cls := "BuildDisk", name := "takePlace", desc := "(I)V" } : Jvm.MethodName) prog_1_method_29_code (2 : Nat) (Option.none : Option Jvm.ClassFile.FieldType)) ∈ lw_T := lw_in2 120 rfl rfl
theorem t2_121 : (Jvm.Cond.methodLink "BuildDisk" (252 : Nat) ({ cls := "BuildDisk$Table", name := "isToCopy", desc := "(I)Z" } : Jvm.MethodName)) ∈ lw_T := lw_in2 121 rfl rfl
theorem t2_122 : (Jvm.Cond.instanceMethod ({ cls := "BuildDisk$Table", name := "isToCopy", desc := "(I)Z" } : Jvm.MethodName)) ∈ lw_T := lw_in2 122 rfl rfl
theorem t2_123 : (Jvm.Cond.selects "BuildDisk$Table" ({ cls := "BuildDisk$Table", name := "isToCopy", desc := "(I)Z" } : Jvm.MethodName) ({ cls := "BuildDisk$Table", name := "isToCopy", desc := "(I)Z" } : Jvm.MethodName)) ∈ lw_T := lw_in2 123 rfl rfl
theorem t2_124 : (Jvm.Cond.code ({ cls := "BuildDisk$Table", name := "isToCopy", desc := "(I)Z" } : Jvm.MethodName) prog_5_method_15_code (2 : Nat) (Option.some Jvm.ClassFile.FieldType.boolean)) ∈ lw_T := lw_in2 124 rfl rfl
theorem t2_125 : (Jvm.Cond.methodLink "BuildDisk$Table" (44 : Nat) ({ cls := "BuildDisk$Table", name := "isWrongBehind", desc := "(I)Z" } : Jvm.MethodName)) ∈ lw_T := lw_in2 125 rfl rfl
theorem t2_126 : (Jvm.Cond.instanceMethod ({ cls := "BuildDisk$Table", name := "isWrongBehind", desc := "(I)Z" } : Jvm.MethodName)) ∈ lw_T := lw_in2 126 rfl rfl
theorem t2_127 : (Jvm.Cond.selects "BuildDisk$Table" ({ cls := "BuildDisk$Table", name := "isWrongBehind", desc := "(I)Z" } : Jvm.MethodName) ({ cls := "BuildDisk$Table", name := "isWrongBehind", desc := "(I)Z" } : Jvm.MethodName)) ∈ lw_T := lw_in2 127 rfl rfl
theorem t2_128 : (Jvm.Cond.code ({ cls := "BuildDisk$Table", name := "isWrongBehind", desc := "(I)Z" } : Jvm.MethodName) prog_5_method_13_code (2 : Nat) (Option.some Jvm.ClassFile.FieldType.boolean)) ∈ lw_T := lw_in2 128 rfl rfl
theorem t2_129 : (Jvm.Cond.methodLink "BuildDisk" (249 : Nat) ({ cls := "BuildDisk", name := "endCompaction", desc := "()V" } : Jvm.MethodName)) ∈ lw_T := lw_in2 129 rfl rfl
theorem t2_13 : (Jvm.Cond.instanceMethod ({ cls := "BuildDisk$Table", name := "readRow", desc := "([BII)V" } : Jvm.MethodName)) ∈ lw_T := lw_in2 13 rfl rfl
theorem t2_131 : (Jvm.Cond.instanceMethod ({ cls := "BuildDisk", name := "endCompaction", desc := "()V" } : Jvm.MethodName)) ∈ lw_T := lw_in2 131 rfl rfl
theorem t2_132 : (Jvm.Cond.code ({ cls := "BuildDisk", name := "endCompaction", desc := "()V" } : Jvm.MethodName) prog_1_method_30_code (1 : Nat) (Option.none : Option Jvm.ClassFile.FieldType)) ∈ lw_T := lw_in2 132 rfl rfl
theorem t2_133 : (Jvm.Cond.methodLink "BuildDisk" (255 : Nat) ({ cls := "BuildDisk$Table", name := "keepOnly", desc := "([II)V" } : Jvm.MethodName)) ∈ lw_T := lw_in2 133 rfl rfl
theorem t2_134 : (Jvm.Cond.instanceMethod ({ cls := "BuildDisk$Table", name := "keepOnly", desc := "([II)V" } : Jvm.MethodName)) ∈ lw_T := lw_in2 134 rfl rfl
theorem t2_135 : (Jvm.Cond.selects "BuildDisk$Table" ({ cls := "BuildDisk$Table", name := "keepOnly", desc := "([II)V" } : Jvm.MethodName) ({ cls := "BuildDisk$Table", name := "keepOnly", desc := "([II)V" } : Jvm.MethodName)) ∈ lw_T := lw_in2 135 rfl rfl
theorem t2_136 : (Jvm.Cond.code ({ cls := "BuildDisk$Table", name := "keepOnly", desc := "([II)V" } : Jvm.MethodName) prog_5_method_20_code (4 : Nat) (Option.none : Option Jvm.ClassFile.FieldType)) ∈ lw_T := lw_in2 136 rfl rfl
theorem t2_137 : (Jvm.Cond.methodLink "BuildDisk$Table" (63 : Nat) ({ cls := "BuildDisk$Table", name := "move", desc := "(II)V" } : Jvm.MethodName)) ∈ lw_T := lw_in2 137 rfl rfl
theorem t2_139 : (Jvm.Cond.instanceMethod ({ cls := "BuildDisk$Table", name := "move", desc := "(II)V" } : Jvm.MethodName)) ∈ lw_T := lw_in2 139 rfl rfl
theorem t2_14 : (Jvm.Cond.code ({ cls := "BuildDisk$Table", name := "readRow", desc := "([BII)V" } : Jvm.MethodName) prog_5_method_24_code (5 : Nat) (Option.none : Option Jvm.ClassFile.FieldType)) ∈ lw_T := lw_in2 14 rfl rfl
theorem t2_140 : (Jvm.Cond.code ({ cls := "BuildDisk$Table", name := "move", desc := "(II)V" } : Jvm.MethodName) prog_5_method_25_code (4 : Nat) (Option.none : Option Jvm.ClassFile.FieldType)) ∈ lw_T := lw_in2 140 rfl rfl
theorem t2_141 : (Jvm.Cond.methodLink "BuildDiskLaw" (53 : Nat) ({ cls := "BuildDisk", name := "cut", desc := "(II)V" } : Jvm.MethodName)) ∈ lw_T := lw_in2 141 rfl rfl
theorem t2_142 : (Jvm.Cond.instanceMethod ({ cls := "BuildDisk", name := "cut", desc := "(II)V" } : Jvm.MethodName)) ∈ lw_T := lw_in2 142 rfl rfl
theorem t2_143 : (Jvm.Cond.selects "BuildDisk" ({ cls := "BuildDisk", name := "cut", desc := "(II)V" } : Jvm.MethodName) ({ cls := "BuildDisk", name := "cut", desc := "(II)V" } : Jvm.MethodName)) ∈ lw_T := lw_in2 143 rfl rfl
theorem t2_144 : (Jvm.Cond.code ({ cls := "BuildDisk", name := "cut", desc := "(II)V" } : Jvm.MethodName) prog_1_method_7_code (3 : Nat) (Option.none : Option Jvm.ClassFile.FieldType)) ∈ lw_T := lw_in2 144 rfl rfl
theorem t2_145 : (Jvm.Cond.methodLink "BuildDisk" (142 : Nat) ({ cls := "BuildDisk$Unkept", name := "forgetAll", desc := "()V" } : Jvm.MethodName)) ∈ lw_T := lw_in2 145 rfl rfl
theorem t2_146 : (Jvm.Cond.instanceMethod ({ cls := "BuildDisk$Unkept", name := "forgetAll", desc := "()V" } : Jvm.MethodName)) ∈ lw_T := lw_in2 146 rfl rfl
theorem t2_147 : (Jvm.Cond.selects "BuildDisk$Unkept" ({ cls := "BuildDisk$Unkept", name := "forgetAll", desc := "()V" } : Jvm.MethodName) ({ cls := "BuildDisk$Unkept", name := "forgetAll", desc := "()V" } : Jvm.MethodName)) ∈ lw_T := lw_in2 147 rfl rfl
theorem t2_148 : (Jvm.Cond.code ({ cls := "BuildDisk$Unkept", name := "forgetAll", desc := "()V" } : Jvm.MethodName) prog_6_method_7_code (2 : Nat) (Option.none : Option Jvm.ClassFile.FieldType)) ∈ lw_T := lw_in2 148 rfl rfl
theorem t2_149 : (Jvm.Cond.methodLink "BuildDiskLaw" (58 : Nat) ({ cls := "BuildDisk", name := "digest", desc := "(I)J" } : Jvm.MethodName)) ∈ lw_T := lw_in2 149 rfl rfl
theorem t2_15 : (Jvm.Cond.methodLink "BuildDisk$Table" (94 : Nat) ({ cls := "BuildDisk$Numbers", name := "read", desc := "([BII)J" } : Jvm.MethodName)) ∈ lw_T := lw_in2 15 rfl rfl
theorem t2_150 : (Jvm.Cond.instanceMethod ({ cls := "BuildDisk", name := "digest", desc := "(I)J" } : Jvm.MethodName)) ∈ lw_T := lw_in2 150 rfl rfl
theorem t2_151 : (Jvm.Cond.selects "BuildDisk" ({ cls := "BuildDisk", name := "digest", desc := "(I)J" } : Jvm.MethodName) ({ cls := "BuildDisk", name := "digest", desc := "(I)J" } : Jvm.MethodName)) ∈ lw_T := lw_in2 151 rfl rfl
theorem t2_152 : (Jvm.Cond.code ({ cls := "BuildDisk", name := "digest", desc := "(I)J" } : Jvm.MethodName) prog_1_method_8_code (3 : Nat) (Option.some Jvm.ClassFile.FieldType.long)) ∈ lw_T := lw_in2 152 rfl rfl
theorem t2_153 : (Jvm.Cond.methodLink "BuildDisk" (145 : Nat) ({ cls := "BuildDisk$Unkept", name := "has", desc := "(I)Z" } : Jvm.MethodName)) ∈ lw_T := lw_in2 153 rfl rfl
theorem t2_154 : (Jvm.Cond.instanceMethod ({ cls := "BuildDisk$Unkept", name := "has", desc := "(I)Z" } : Jvm.MethodName)) ∈ lw_T := lw_in2 154 rfl rfl
theorem t2_155 : (Jvm.Cond.selects "BuildDisk$Unkept" ({ cls := "BuildDisk$Unkept", name := "has", desc := "(I)Z" } : Jvm.MethodName) ({ cls := "BuildDisk$Unkept", name := "has", desc := "(I)Z" } : Jvm.MethodName)) ∈ lw_T := lw_in2 155 rfl rfl
theorem t2_156 : (Jvm.Cond.code ({ cls := "BuildDisk$Unkept", name := "has", desc := "(I)Z" } : Jvm.MethodName) prog_6_method_2_code (2 : Nat) (Option.some Jvm.ClassFile.FieldType.boolean)) ∈ lw_T := lw_in2 156 rfl rfl
theorem t2_157 : (Jvm.Cond.methodLink "BuildDisk" (148 : Nat) ({ cls := "BuildDisk$Unkept", name := "digestOf", desc := "(I)J" } : Jvm.MethodName)) ∈ lw_T := lw_in2 157 rfl rfl
theorem t2_158 : (Jvm.Cond.instanceMethod ({ cls := "BuildDisk$Unkept", name := "digestOf", desc := "(I)J" } : Jvm.MethodName)) ∈ lw_T := lw_in2 158 rfl rfl
theorem t2_159 : (Jvm.Cond.selects "BuildDisk$Unkept" ({ cls := "BuildDisk$Unkept", name := "digestOf", desc := "(I)J" } : Jvm.MethodName) ({ cls := "BuildDisk$Unkept", name := "digestOf", desc := "(I)J" } : Jvm.MethodName)) ∈ lw_T := lw_in2 159 rfl rfl
theorem t2_16 : (Jvm.Cond.methodLink "BuildDisk" (86 : Nat) ({ cls := "BuildDisk$Table", name := "wrongCount", desc := "()I" } : Jvm.MethodName)) ∈ lw_T := lw_in2 16 rfl rfl
theorem t2_160 : (Jvm.Cond.code ({ cls := "BuildDisk$Unkept", name := "digestOf", desc := "(I)J" } : Jvm.MethodName) prog_6_method_3_code (2 : Nat) (Option.some Jvm.ClassFile.FieldType.long)) ∈ lw_T := lw_in2 160 rfl rfl
theorem t2_161 : (Jvm.Cond.methodLink "BuildDisk" (152 : Nat) ({ cls := "BuildDisk$Table", name := "latest", desc := "(I)I" } : Jvm.MethodName)) ∈ lw_T := lw_in2 161 rfl rfl
theorem t2_162 : (Jvm.Cond.instanceMethod ({ cls := "BuildDisk$Table", name := "latest", desc := "(I)I" } : Jvm.MethodName)) ∈ lw_T := lw_in2 162 rfl rfl
theorem t2_163 : (Jvm.Cond.selects "BuildDisk$Table" ({ cls := "BuildDisk$Table", name := "latest", desc := "(I)I" } : Jvm.MethodName) ({ cls := "BuildDisk$Table", name := "latest", desc := "(I)I" } : Jvm.MethodName)) ∈ lw_T := lw_in2 163 rfl rfl
theorem t2_164 : (Jvm.Cond.code ({ cls := "BuildDisk$Table", name := "latest", desc := "(I)I" } : Jvm.MethodName) prog_5_method_12_code (2 : Nat) (Option.some Jvm.ClassFile.FieldType.int)) ∈ lw_T := lw_in2 164 rfl rfl
theorem t2_165 : (Jvm.Cond.methodLink "BuildDisk" (155 : Nat) ({ cls := "BuildDisk$Table", name := "digestAt", desc := "(I)J" } : Jvm.MethodName)) ∈ lw_T := lw_in2 165 rfl rfl
theorem t2_166 : (Jvm.Cond.instanceMethod ({ cls := "BuildDisk$Table", name := "digestAt", desc := "(I)J" } : Jvm.MethodName)) ∈ lw_T := lw_in2 166 rfl rfl
theorem t2_167 : (Jvm.Cond.selects "BuildDisk$Table" ({ cls := "BuildDisk$Table", name := "digestAt", desc := "(I)J" } : Jvm.MethodName) ({ cls := "BuildDisk$Table", name := "digestAt", desc := "(I)J" } : Jvm.MethodName)) ∈ lw_T := lw_in2 167 rfl rfl
theorem t2_168 : (Jvm.Cond.code ({ cls := "BuildDisk$Table", name := "digestAt", desc := "(I)J" } : Jvm.MethodName) prog_5_method_11_code (2 : Nat) (Option.some Jvm.ClassFile.FieldType.long)) ∈ lw_T := lw_in2 168 rfl rfl
theorem t2_169 : (Jvm.Cond.methodLink "BuildDiskLaw" (63 : Nat) ({ cls := "BuildDisk", name := "asked", desc := "(II)I" } : Jvm.MethodName)) ∈ lw_T := lw_in2 169 rfl rfl
theorem t2_17 : (Jvm.Cond.instanceMethod ({ cls := "BuildDisk$Table", name := "wrongCount", desc := "()I" } : Jvm.MethodName)) ∈ lw_T := lw_in2 17 rfl rfl
theorem t2_170 : (Jvm.Cond.instanceMethod ({ cls := "BuildDisk", name := "asked", desc := "(II)I" } : Jvm.MethodName)) ∈ lw_T := lw_in2 170 rfl rfl
theorem t2_171 : (Jvm.Cond.selects "BuildDisk" ({ cls := "BuildDisk", name := "asked", desc := "(II)I" } : Jvm.MethodName) ({ cls := "BuildDisk", name := "asked", desc := "(II)I" } : Jvm.MethodName)) ∈ lw_T := lw_in2 171 rfl rfl
theorem t2_172 : (Jvm.Cond.code ({ cls := "BuildDisk", name := "asked", desc := "(II)I" } : Jvm.MethodName) prog_1_method_9_code (4 : Nat) (Option.some Jvm.ClassFile.FieldType.int)) ∈ lw_T := lw_in2 172 rfl rfl
theorem t2_173 : (Jvm.Cond.methodLink "BuildDisk" (158 : Nat) ({ cls := "BuildDisk$Table", name := "askAt", desc := "(II)I" } : Jvm.MethodName)) ∈ lw_T := lw_in2 173 rfl rfl
theorem t2_174 : (Jvm.Cond.methodLink "BuildDiskLaw" (67 : Nat) ({ cls := "BuildDisk", name := "sure", desc := "(I)Z" } : Jvm.MethodName)) ∈ lw_T := lw_in2 174 rfl rfl
theorem t2_175 : (Jvm.Cond.instanceMethod ({ cls := "BuildDisk", name := "sure", desc := "(I)Z" } : Jvm.MethodName)) ∈ lw_T := lw_in2 175 rfl rfl
theorem t2_176 : (Jvm.Cond.selects "BuildDisk" ({ cls := "BuildDisk", name := "sure", desc := "(I)Z" } : Jvm.MethodName) ({ cls := "BuildDisk", name := "sure", desc := "(I)Z" } : Jvm.MethodName)) ∈ lw_T := lw_in2 176 rfl rfl
theorem t2_177 : (Jvm.Cond.code ({ cls := "BuildDisk", name := "sure", desc := "(I)Z" } : Jvm.MethodName) prog_1_method_10_code (3 : Nat) (Option.some Jvm.ClassFile.FieldType.boolean)) ∈ lw_T := lw_in2 177 rfl rfl
theorem t2_178 : (Jvm.Cond.methodLink "BuildDisk" (161 : Nat) ({ cls := "BuildDisk$Table", name := "isWrongBehind", desc := "(I)Z" } : Jvm.MethodName)) ∈ lw_T := lw_in2 178 rfl rfl
theorem t2_179 : (Jvm.Cond.methodLink "BuildDisk" (164 : Nat) ({ cls := "BuildDisk", name := "allAskedAhead", desc := "(I)Z" } : Jvm.MethodName)) ∈ lw_T := lw_in2 179 rfl rfl
theorem t2_18 : (Jvm.Cond.selects "BuildDisk$Table" ({ cls := "BuildDisk$Table", name := "wrongCount", desc := "()I" } : Jvm.MethodName) ({ cls := "BuildDisk$Table", name := "wrongCount", desc := "()I" } : Jvm.MethodName)) ∈ lw_T := lw_in2 18 rfl rfl
theorem t2_181 : (Jvm.Cond.instanceMethod ({ cls := "BuildDisk", name := "allAskedAhead", desc := "(I)Z" } : Jvm.MethodName)) ∈ lw_T := lw_in2 181 rfl rfl
theorem t2_182 : (Jvm.Cond.code ({ cls := "BuildDisk", name := "allAskedAhead", desc := "(I)Z" } : Jvm.MethodName) prog_1_method_27_code (6 : Nat) (Option.some Jvm.ClassFile.FieldType.boolean)) ∈ lw_T := lw_in2 182 rfl rfl
theorem t2_183 : (Jvm.Cond.methodLink "BuildDiskLaw" (76 : Nat) ({ cls := "BuildDisk", name := "poke", desc := "(II)I" } : Jvm.MethodName)) ∈ lw_T := lw_in2 183 rfl rfl
theorem t2_184 : (Jvm.Cond.instanceMethod ({ cls := "BuildDisk", name := "poke", desc := "(II)I" } : Jvm.MethodName)) ∈ lw_T := lw_in2 184 rfl rfl
theorem t2_185 : (Jvm.Cond.selects "BuildDisk" ({ cls := "BuildDisk", name := "poke", desc := "(II)I" } : Jvm.MethodName) ({ cls := "BuildDisk", name := "poke", desc := "(II)I" } : Jvm.MethodName)) ∈ lw_T := lw_in2 185 rfl rfl
theorem t2_186 : (Jvm.Cond.code ({ cls := "BuildDisk", name := "poke", desc := "(II)I" } : Jvm.MethodName) prog_1_method_12_code (3 : Nat) (Option.some Jvm.ClassFile.FieldType.int)) ∈ lw_T := lw_in2 186 rfl rfl
theorem t2_187 : (Jvm.Cond.methodLink "BuildDiskLaw" (80 : Nat) ({ cls := "BuildDisk", name := "wrong", desc := "()I" } : Jvm.MethodName)) ∈ lw_T := lw_in2 187 rfl rfl
theorem t2_188 : (Jvm.Cond.instanceMethod ({ cls := "BuildDisk", name := "wrong", desc := "()I" } : Jvm.MethodName)) ∈ lw_T := lw_in2 188 rfl rfl
theorem t2_189 : (Jvm.Cond.selects "BuildDisk" ({ cls := "BuildDisk", name := "wrong", desc := "()I" } : Jvm.MethodName) ({ cls := "BuildDisk", name := "wrong", desc := "()I" } : Jvm.MethodName)) ∈ lw_T := lw_in2 189 rfl rfl
theorem t2_19 : (Jvm.Cond.code ({ cls := "BuildDisk$Table", name := "wrongCount", desc := "()I" } : Jvm.MethodName) prog_5_method_7_code (1 : Nat) (Option.some Jvm.ClassFile.FieldType.int)) ∈ lw_T := lw_in2 19 rfl rfl
theorem t2_190 : (Jvm.Cond.code ({ cls := "BuildDisk", name := "wrong", desc := "()I" } : Jvm.MethodName) prog_1_method_13_code (1 : Nat) (Option.some Jvm.ClassFile.FieldType.int)) ∈ lw_T := lw_in2 190 rfl rfl
theorem t2_191 : (Jvm.Cond.methodLink "BuildDiskLaw" (84 : Nat) ({ cls := "BuildDisk", name := "lock", desc := "(I)I" } : Jvm.MethodName)) ∈ lw_T := lw_in2 191 rfl rfl
theorem t2_192 : (Jvm.Cond.instanceMethod ({ cls := "BuildDisk", name := "lock", desc := "(I)I" } : Jvm.MethodName)) ∈ lw_T := lw_in2 192 rfl rfl
theorem t2_193 : (Jvm.Cond.selects "BuildDisk" ({ cls := "BuildDisk", name := "lock", desc := "(I)I" } : Jvm.MethodName) ({ cls := "BuildDisk", name := "lock", desc := "(I)I" } : Jvm.MethodName)) ∈ lw_T := lw_in2 193 rfl rfl
theorem t2_194 : (Jvm.Cond.code ({ cls := "BuildDisk", name := "lock", desc := "(I)I" } : Jvm.MethodName) prog_1_method_14_code (3 : Nat) (Option.some Jvm.ClassFile.FieldType.int)) ∈ lw_T := lw_in2 194 rfl rfl
theorem t2_195 : (Jvm.Cond.methodLink "BuildDisk" (177 : Nat) ({ cls := "BuildDisk$Table", name := "isUser", desc := "(I)Z" } : Jvm.MethodName)) ∈ lw_T := lw_in2 195 rfl rfl
theorem t2_196 : (Jvm.Cond.methodLink "BuildDisk" (180 : Nat) ({ cls := "BuildDisk$Table", name := "lockHolder", desc := "()I" } : Jvm.MethodName)) ∈ lw_T := lw_in2 196 rfl rfl
theorem t2_197 : (Jvm.Cond.instanceMethod ({ cls := "BuildDisk$Table", name := "lockHolder", desc := "()I" } : Jvm.MethodName)) ∈ lw_T := lw_in2 197 rfl rfl
theorem t2_198 : (Jvm.Cond.selects "BuildDisk$Table" ({ cls := "BuildDisk$Table", name := "lockHolder", desc := "()I" } : Jvm.MethodName) ({ cls := "BuildDisk$Table", name := "lockHolder", desc := "()I" } : Jvm.MethodName)) ∈ lw_T := lw_in2 198 rfl rfl
theorem t2_199 : (Jvm.Cond.code ({ cls := "BuildDisk$Table", name := "lockHolder", desc := "()I" } : Jvm.MethodName) prog_5_method_14_code (1 : Nat) (Option.some Jvm.ClassFile.FieldType.int)) ∈ lw_T := lw_in2 199 rfl rfl
theorem t2_2 : (Jvm.Cond.static ({ cls := "BuildDisk$Table", name := "isKey", desc := "(I)Z" } : Jvm.MethodName)) ∈ lw_T := lw_in2 2 rfl rfl
theorem t2_20 : (Jvm.Cond.methodLink "BuildDisk" (93 : Nat) ({ cls := "BuildDisk$Table", name := "end", desc := "()I" } : Jvm.MethodName)) ∈ lw_T := lw_in2 20 rfl rfl
theorem t2_200 : (Jvm.Cond.methodLink "BuildDiskLaw" (88 : Nat) ({ cls := "BuildDisk", name := "dead", desc := "(I)I" } : Jvm.MethodName)) ∈ lw_T := lw_in2 200 rfl rfl
theorem t2_201 : (Jvm.Cond.instanceMethod ({ cls := "BuildDisk", name := "dead", desc := "(I)I" } : Jvm.MethodName)) ∈ lw_T := lw_in2 201 rfl rfl
theorem t2_202 : (Jvm.Cond.selects "BuildDisk" ({ cls := "BuildDisk", name := "dead", desc := "(I)I" } : Jvm.MethodName) ({ cls := "BuildDisk", name := "dead", desc := "(I)I" } : Jvm.MethodName)) ∈ lw_T := lw_in2 202 rfl rfl
theorem t2_203 : (Jvm.Cond.code ({ cls := "BuildDisk", name := "dead", desc := "(I)I" } : Jvm.MethodName) prog_1_method_15_code (2 : Nat) (Option.some Jvm.ClassFile.FieldType.int)) ∈ lw_T := lw_in2 203 rfl rfl
theorem t2_204 : (Jvm.Cond.methodLink "BuildDiskLaw" (92 : Nat) ({ cls := "BuildDisk", name := "edition", desc := "(I)I" } : Jvm.MethodName)) ∈ lw_T := lw_in2 204 rfl rfl
theorem t2_205 : (Jvm.Cond.instanceMethod ({ cls := "BuildDisk", name := "edition", desc := "(I)I" } : Jvm.MethodName)) ∈ lw_T := lw_in2 205 rfl rfl
theorem t2_206 : (Jvm.Cond.selects "BuildDisk" ({ cls := "BuildDisk", name := "edition", desc := "(I)I" } : Jvm.MethodName) ({ cls := "BuildDisk", name := "edition", desc := "(I)I" } : Jvm.MethodName)) ∈ lw_T := lw_in2 206 rfl rfl
theorem t2_207 : (Jvm.Cond.code ({ cls := "BuildDisk", name := "edition", desc := "(I)I" } : Jvm.MethodName) prog_1_method_16_code (2 : Nat) (Option.some Jvm.ClassFile.FieldType.int)) ∈ lw_T := lw_in2 207 rfl rfl
theorem t2_208 : (Jvm.Cond.methodLink "BuildDiskLaw" (96 : Nat) ({ cls := "BuildDisk", name := "about", desc := "(I)I" } : Jvm.MethodName)) ∈ lw_T := lw_in2 208 rfl rfl
theorem t2_209 : (Jvm.Cond.instanceMethod ({ cls := "BuildDisk", name := "about", desc := "(I)I" } : Jvm.MethodName)) ∈ lw_T := lw_in2 209 rfl rfl
theorem t2_21 : (Jvm.Cond.instanceMethod ({ cls := "BuildDisk$Table", name := "end", desc := "()I" } : Jvm.MethodName)) ∈ lw_T := lw_in2 21 rfl rfl
theorem t2_210 : (Jvm.Cond.selects "BuildDisk" ({ cls := "BuildDisk", name := "about", desc := "(I)I" } : Jvm.MethodName) ({ cls := "BuildDisk", name := "about", desc := "(I)I" } : Jvm.MethodName)) ∈ lw_T := lw_in2 210 rfl rfl
theorem t2_211 : (Jvm.Cond.code ({ cls := "BuildDisk", name := "about", desc := "(I)I" } : Jvm.MethodName) prog_1_method_17_code (2 : Nat) (Option.some Jvm.ClassFile.FieldType.int)) ∈ lw_T := lw_in2 211 rfl rfl
theorem t2_212 : (Jvm.Cond.methodLink "BuildDisk" (183 : Nat) ({ cls := "BuildDisk$Table", name := "places", desc := "()I" } : Jvm.MethodName)) ∈ lw_T := lw_in2 212 rfl rfl
theorem t2_213 : (Jvm.Cond.instanceMethod ({ cls := "BuildDisk$Table", name := "places", desc := "()I" } : Jvm.MethodName)) ∈ lw_T := lw_in2 213 rfl rfl
theorem t2_214 : (Jvm.Cond.selects "BuildDisk$Table" ({ cls := "BuildDisk$Table", name := "places", desc := "()I" } : Jvm.MethodName) ({ cls := "BuildDisk$Table", name := "places", desc := "()I" } : Jvm.MethodName)) ∈ lw_T := lw_in2 214 rfl rfl
theorem t2_215 : (Jvm.Cond.code ({ cls := "BuildDisk$Table", name := "places", desc := "()I" } : Jvm.MethodName) prog_5_method_4_code (1 : Nat) (Option.some Jvm.ClassFile.FieldType.int)) ∈ lw_T := lw_in2 215 rfl rfl
theorem t2_216 : (Jvm.Cond.methodLink "BuildDisk" (186 : Nat) ({ cls := "BuildDisk", name := "aboutRunning", desc := "(I)I" } : Jvm.MethodName)) ∈ lw_T := lw_in2 216 rfl rfl
theorem t2_218 : (Jvm.Cond.instanceMethod ({ cls := "BuildDisk", name := "aboutRunning", desc := "(I)I" } : Jvm.MethodName)) ∈ lw_T := lw_in2 218 rfl rfl
theorem t2_219 : (Jvm.Cond.code ({ cls := "BuildDisk", name := "aboutRunning", desc := "(I)I" } : Jvm.MethodName) prog_1_method_18_code (2 : Nat) (Option.some Jvm.ClassFile.FieldType.int)) ∈ lw_T := lw_in2 219 rfl rfl
theorem t2_22 : (Jvm.Cond.selects "BuildDisk$Table" ({ cls := "BuildDisk$Table", name := "end", desc := "()I" } : Jvm.MethodName) ({ cls := "BuildDisk$Table", name := "end", desc := "()I" } : Jvm.MethodName)) ∈ lw_T := lw_in2 22 rfl rfl
theorem t2_220 : (Jvm.Cond.methodLink "BuildDisk" (189 : Nat) ({ cls := "BuildDisk$Disk", name := "waiting", desc := "()I" } : Jvm.MethodName)) ∈ lw_T := lw_in2 220 rfl rfl
theorem t2_221 : (Jvm.Cond.instanceMethod ({ cls := "BuildDisk$Disk", name := "waiting", desc := "()I" } : Jvm.MethodName)) ∈ lw_T := lw_in2 221 rfl rfl
theorem t2_222 : (Jvm.Cond.selects "BuildDisk$Disk" ({ cls := "BuildDisk$Disk", name := "waiting", desc := "()I" } : Jvm.MethodName) ({ cls := "BuildDisk$Disk", name := "waiting", desc := "()I" } : Jvm.MethodName)) ∈ lw_T := lw_in2 222 rfl rfl
theorem t2_223 : (Jvm.Cond.code ({ cls := "BuildDisk$Disk", name := "waiting", desc := "()I" } : Jvm.MethodName) prog_2_method_2_code (1 : Nat) (Option.some Jvm.ClassFile.FieldType.int)) ∈ lw_T := lw_in2 223 rfl rfl
theorem t2_224 : (Jvm.Cond.methodLink "BuildDisk" (192 : Nat) ({ cls := "BuildDisk$Unkept", name := "count", desc := "()I" } : Jvm.MethodName)) ∈ lw_T := lw_in2 224 rfl rfl
theorem t2_225 : (Jvm.Cond.instanceMethod ({ cls := "BuildDisk$Unkept", name := "count", desc := "()I" } : Jvm.MethodName)) ∈ lw_T := lw_in2 225 rfl rfl
theorem t2_226 : (Jvm.Cond.selects "BuildDisk$Unkept" ({ cls := "BuildDisk$Unkept", name := "count", desc := "()I" } : Jvm.MethodName) ({ cls := "BuildDisk$Unkept", name := "count", desc := "()I" } : Jvm.MethodName)) ∈ lw_T := lw_in2 226 rfl rfl
theorem t2_227 : (Jvm.Cond.code ({ cls := "BuildDisk$Unkept", name := "count", desc := "()I" } : Jvm.MethodName) prog_6_method_4_code (3 : Nat) (Option.some Jvm.ClassFile.FieldType.int)) ∈ lw_T := lw_in2 227 rfl rfl
theorem t2_228 : (Jvm.Cond.methodLink "BuildDiskLaw" (15 : Nat) ({ cls := "BuildDiskLaw", name := "cell", desc := "([II)I" } : Jvm.MethodName)) ∈ lw_T := lw_in2 228 rfl rfl
theorem t2_229 : (Jvm.Cond.static ({ cls := "BuildDiskLaw", name := "cell", desc := "([II)I" } : Jvm.MethodName)) ∈ lw_T := lw_in2 229 rfl rfl
theorem t2_23 : (Jvm.Cond.code ({ cls := "BuildDisk$Table", name := "end", desc := "()I" } : Jvm.MethodName) prog_5_method_5_code (1 : Nat) (Option.some Jvm.ClassFile.FieldType.int)) ∈ lw_T := lw_in2 23 rfl rfl
theorem t2_230 : (Jvm.Cond.code ({ cls := "BuildDiskLaw", name := "cell", desc := "([II)I" } : Jvm.MethodName) method_2_code (2 : Nat) (Option.some Jvm.ClassFile.FieldType.int)) ∈ lw_T := lw_in2 230 rfl rfl
theorem t2_231 : (Jvm.Cond.methodLink "BuildDiskLaw" (72 : Nat) ({ cls := "BuildDiskLaw", name := "sector", desc := "(LBuildDisk;II[J)I" } : Jvm.MethodName)) ∈ lw_T := lw_in2 231 rfl rfl
theorem t2_232 : (Jvm.Cond.static ({ cls := "BuildDiskLaw", name := "sector", desc := "(LBuildDisk;II[J)I" } : Jvm.MethodName)) ∈ lw_T := lw_in2 232 rfl rfl
theorem t2_233 : (Jvm.Cond.codeWith ({ cls := "BuildDiskLaw", name := "sector", desc := "(LBuildDisk;II[J)I" } : Jvm.MethodName) method_3_code (5 : Nat) (Option.some Jvm.ClassFile.FieldType.int) [((0 : Nat), (10 : Nat), (13 : Nat), (13 : Nat))]) ∈ lw_T := lw_in2 233 rfl rfl
theorem t2_234 : (Jvm.Cond.classLink "BuildDiskLaw" (13 : Nat) "java/lang/ArrayIndexOutOfBoundsException") ∈ lw_T := lw_in2 234 rfl rfl
theorem t2_235 : (Jvm.Cond.methodLink "BuildDiskLaw" (7 : Nat) ({ cls := "BuildDisk", name := "sector", desc := "(II)B" } : Jvm.MethodName)) ∈ lw_T := lw_in2 235 rfl rfl
theorem t2_236 : (Jvm.Cond.instanceMethod ({ cls := "BuildDisk", name := "sector", desc := "(II)B" } : Jvm.MethodName)) ∈ lw_T := lw_in2 236 rfl rfl
theorem t2_237 : (Jvm.Cond.selects "BuildDisk" ({ cls := "BuildDisk", name := "sector", desc := "(II)B" } : Jvm.MethodName) ({ cls := "BuildDisk", name := "sector", desc := "(II)B" } : Jvm.MethodName)) ∈ lw_T := lw_in2 237 rfl rfl
theorem t2_238 : (Jvm.Cond.code ({ cls := "BuildDisk", name := "sector", desc := "(II)B" } : Jvm.MethodName) prog_1_method_11_code (3 : Nat) (Option.some Jvm.ClassFile.FieldType.byte)) ∈ lw_T := lw_in2 238 rfl rfl
theorem t2_239 : (Jvm.Cond.classLink "BuildDisk" (170 : Nat) "java/lang/ArrayIndexOutOfBoundsException") ∈ lw_T := lw_in2 239 rfl rfl
theorem t2_24 : (Jvm.Cond.methodLink "BuildDisk" (99 : Nat) ({ cls := "BuildDisk", name := "changeHeads", desc := "()V" } : Jvm.MethodName)) ∈ lw_T := lw_in2 24 rfl rfl
theorem t2_26 : (Jvm.Cond.instanceMethod ({ cls := "BuildDisk", name := "changeHeads", desc := "()V" } : Jvm.MethodName)) ∈ lw_T := lw_in2 26 rfl rfl
theorem t2_27 : (Jvm.Cond.code ({ cls := "BuildDisk", name := "changeHeads", desc := "()V" } : Jvm.MethodName) prog_1_method_24_code (3 : Nat) (Option.none : Option Jvm.ClassFile.FieldType)) ∈ lw_T := lw_in2 27 rfl rfl
theorem t2_28 : (Jvm.Cond.methodLink "BuildDisk" (221 : Nat) ({ cls := "java/lang/Math", name := "floorMod", desc := "(II)I" } : Jvm.MethodName)) ∈ lw_T := lw_in2 28 rfl rfl
theorem t2_29 : (Jvm.Cond.static ({ cls := "java/lang/Math", name := "floorMod", desc := "(II)I" } : Jvm.MethodName)) ∈ lw_T := lw_in2 29 rfl rfl
theorem t2_3 : (Jvm.Cond.code ({ cls := "BuildDisk$Table", name := "isKey", desc := "(I)Z" } : Jvm.MethodName) prog_5_method_2_code (1 : Nat) (Option.some Jvm.ClassFile.FieldType.boolean)) ∈ lw_T := lw_in2 3 rfl rfl
theorem t2_30 : (Jvm.Cond.code ({ cls := "java/lang/Math", name := "floorMod", desc := "(II)I" } : Jvm.MethodName) prog_12_method_50_code (3 : Nat) (Option.some Jvm.ClassFile.FieldType.int)) ∈ lw_T := lw_in2 30 rfl rfl
theorem t2_31 : (Jvm.Cond.methodLink "BuildDisk" (227 : Nat) ({ cls := "BuildDisk$Head", name := "write", desc := "([BIIII)V" } : Jvm.MethodName)) ∈ lw_T := lw_in2 31 rfl rfl
theorem t2_32 : (Jvm.Cond.static ({ cls := "BuildDisk$Head", name := "write", desc := "([BIIII)V" } : Jvm.MethodName)) ∈ lw_T := lw_in2 32 rfl rfl
theorem t2_33 : (Jvm.Cond.code ({ cls := "BuildDisk$Head", name := "write", desc := "([BIIII)V" } : Jvm.MethodName) prog_3_method_7_code (5 : Nat) (Option.none : Option Jvm.ClassFile.FieldType)) ∈ lw_T := lw_in2 33 rfl rfl
theorem t2_34 : (Jvm.Cond.methodLink "BuildDisk$Head" (36 : Nat) ({ cls := "BuildDisk$Numbers", name := "write", desc := "([BIIJ)V" } : Jvm.MethodName)) ∈ lw_T := lw_in2 34 rfl rfl
theorem t2_35 : (Jvm.Cond.static ({ cls := "BuildDisk$Numbers", name := "write", desc := "([BIIJ)V" } : Jvm.MethodName)) ∈ lw_T := lw_in2 35 rfl rfl
theorem t2_36 : (Jvm.Cond.code ({ cls := "BuildDisk$Numbers", name := "write", desc := "([BIIJ)V" } : Jvm.MethodName) prog_4_method_3_code (6 : Nat) (Option.none : Option Jvm.ClassFile.FieldType)) ∈ lw_T := lw_in2 36 rfl rfl
theorem t2_37 : (Jvm.Cond.methodLink "BuildDisk$Head" (40 : Nat) ({ cls := "BuildDisk$Numbers", name := "writeSum", desc := "([BIII)V" } : Jvm.MethodName)) ∈ lw_T := lw_in2 37 rfl rfl
theorem t2_38 : (Jvm.Cond.static ({ cls := "BuildDisk$Numbers", name := "writeSum", desc := "([BIII)V" } : Jvm.MethodName)) ∈ lw_T := lw_in2 38 rfl rfl
theorem t2_39 : (Jvm.Cond.code ({ cls := "BuildDisk$Numbers", name := "writeSum", desc := "([BIII)V" } : Jvm.MethodName) prog_4_method_6_code (4 : Nat) (Option.none : Option Jvm.ClassFile.FieldType)) ∈ lw_T := lw_in2 39 rfl rfl
theorem t2_4 : (Jvm.Cond.methodLink "BuildDisk$Table" (84 : Nat) ({ cls := "BuildDisk$Table", name := "areKeys", desc := "([BII)Z" } : Jvm.MethodName)) ∈ lw_T := lw_in2 4 rfl rfl
theorem t2_40 : (Jvm.Cond.methodLink "BuildDisk$Numbers" (18 : Nat) ({ cls := "BuildDisk$Numbers", name := "write", desc := "([BIIJ)V" } : Jvm.MethodName)) ∈ lw_T := lw_in2 40 rfl rfl
theorem t2_41 : (Jvm.Cond.methodLink "BuildDiskLaw" (34 : Nat) ({ cls := "BuildDisk", name := "row", desc := "(IJ)I" } : Jvm.MethodName)) ∈ lw_T := lw_in2 41 rfl rfl
theorem t2_42 : (Jvm.Cond.instanceMethod ({ cls := "BuildDisk", name := "row", desc := "(IJ)I" } : Jvm.MethodName)) ∈ lw_T := lw_in2 42 rfl rfl
theorem t2_43 : (Jvm.Cond.selects "BuildDisk" ({ cls := "BuildDisk", name := "row", desc := "(IJ)I" } : Jvm.MethodName) ({ cls := "BuildDisk", name := "row", desc := "(IJ)I" } : Jvm.MethodName)) ∈ lw_T := lw_in2 43 rfl rfl
theorem t2_44 : (Jvm.Cond.code ({ cls := "BuildDisk", name := "row", desc := "(IJ)I" } : Jvm.MethodName) prog_1_method_3_code (5 : Nat) (Option.some Jvm.ClassFile.FieldType.int)) ∈ lw_T := lw_in2 44 rfl rfl
theorem t2_45 : (Jvm.Cond.methodLink "BuildDisk" (102 : Nat) ({ cls := "BuildDisk$Table", name := "isKey", desc := "(I)Z" } : Jvm.MethodName)) ∈ lw_T := lw_in2 45 rfl rfl
theorem t2_46 : (Jvm.Cond.methodLink "BuildDisk" (106 : Nat) ({ cls := "BuildDisk", name := "keep", desc := "(IIJ)I" } : Jvm.MethodName)) ∈ lw_T := lw_in2 46 rfl rfl
theorem t2_48 : (Jvm.Cond.instanceMethod ({ cls := "BuildDisk", name := "keep", desc := "(IIJ)I" } : Jvm.MethodName)) ∈ lw_T := lw_in2 48 rfl rfl
theorem t2_49 : (Jvm.Cond.code ({ cls := "BuildDisk", name := "keep", desc := "(IIJ)I" } : Jvm.MethodName) prog_1_method_25_code (6 : Nat) (Option.some Jvm.ClassFile.FieldType.int)) ∈ lw_T := lw_in2 49 rfl rfl
theorem t2_5 : (Jvm.Cond.static ({ cls := "BuildDisk$Table", name := "areKeys", desc := "([BII)Z" } : Jvm.MethodName)) ∈ lw_T := lw_in2 5 rfl rfl
theorem t2_50 : (Jvm.Cond.methodLink "BuildDisk" (231 : Nat) ({ cls := "BuildDisk$Table", name := "isFull", desc := "()Z" } : Jvm.MethodName)) ∈ lw_T := lw_in2 50 rfl rfl
theorem t2_51 : (Jvm.Cond.instanceMethod ({ cls := "BuildDisk$Table", name := "isFull", desc := "()Z" } : Jvm.MethodName)) ∈ lw_T := lw_in2 51 rfl rfl
theorem t2_52 : (Jvm.Cond.selects "BuildDisk$Table" ({ cls := "BuildDisk$Table", name := "isFull", desc := "()Z" } : Jvm.MethodName) ({ cls := "BuildDisk$Table", name := "isFull", desc := "()Z" } : Jvm.MethodName)) ∈ lw_T := lw_in2 52 rfl rfl
theorem t2_53 : (Jvm.Cond.code ({ cls := "BuildDisk$Table", name := "isFull", desc := "()Z" } : Jvm.MethodName) prog_5_method_6_code (1 : Nat) (Option.some Jvm.ClassFile.FieldType.boolean)) ∈ lw_T := lw_in2 53 rfl rfl
theorem t2_54 : (Jvm.Cond.methodLink "BuildDisk" (234 : Nat) ({ cls := "BuildDisk$Table", name := "append", desc := "(IIJ)I" } : Jvm.MethodName)) ∈ lw_T := lw_in2 54 rfl rfl
theorem t2_55 : (Jvm.Cond.instanceMethod ({ cls := "BuildDisk$Table", name := "append", desc := "(IIJ)I" } : Jvm.MethodName)) ∈ lw_T := lw_in2 55 rfl rfl
theorem t2_56 : (Jvm.Cond.selects "BuildDisk$Table" ({ cls := "BuildDisk$Table", name := "append", desc := "(IIJ)I" } : Jvm.MethodName) ({ cls := "BuildDisk$Table", name := "append", desc := "(IIJ)I" } : Jvm.MethodName)) ∈ lw_T := lw_in2 56 rfl rfl
theorem t2_57 : (Jvm.Cond.code ({ cls := "BuildDisk$Table", name := "append", desc := "(IIJ)I" } : Jvm.MethodName) prog_5_method_18_code (6 : Nat) (Option.some Jvm.ClassFile.FieldType.int)) ∈ lw_T := lw_in2 57 rfl rfl
theorem t2_58 : (Jvm.Cond.methodLink "BuildDisk" (131 : Nat) ({ cls := "BuildDisk", name := "writeRow", desc := "(III)V" } : Jvm.MethodName)) ∈ lw_T := lw_in2 58 rfl rfl
theorem t2_6 : (Jvm.Cond.code ({ cls := "BuildDisk$Table", name := "areKeys", desc := "([BII)Z" } : Jvm.MethodName) prog_5_method_23_code (4 : Nat) (Option.some Jvm.ClassFile.FieldType.boolean)) ∈ lw_T := lw_in2 6 rfl rfl
theorem t2_60 : (Jvm.Cond.instanceMethod ({ cls := "BuildDisk", name := "writeRow", desc := "(III)V" } : Jvm.MethodName)) ∈ lw_T := lw_in2 60 rfl rfl
theorem t2_61 : (Jvm.Cond.code ({ cls := "BuildDisk", name := "writeRow", desc := "(III)V" } : Jvm.MethodName) prog_1_method_26_code (5 : Nat) (Option.none : Option Jvm.ClassFile.FieldType)) ∈ lw_T := lw_in2 61 rfl rfl
theorem t2_62 : (Jvm.Cond.methodLink "BuildDisk" (237 : Nat) ({ cls := "BuildDisk$Disk", name := "waitAsItWillBe", desc := "(I)I" } : Jvm.MethodName)) ∈ lw_T := lw_in2 62 rfl rfl
theorem t2_63 : (Jvm.Cond.instanceMethod ({ cls := "BuildDisk$Disk", name := "waitAsItWillBe", desc := "(I)I" } : Jvm.MethodName)) ∈ lw_T := lw_in2 63 rfl rfl
theorem t2_64 : (Jvm.Cond.selects "BuildDisk$Disk" ({ cls := "BuildDisk$Disk", name := "waitAsItWillBe", desc := "(I)I" } : Jvm.MethodName) ({ cls := "BuildDisk$Disk", name := "waitAsItWillBe", desc := "(I)I" } : Jvm.MethodName)) ∈ lw_T := lw_in2 64 rfl rfl
theorem t2_65 : (Jvm.Cond.code ({ cls := "BuildDisk$Disk", name := "waitAsItWillBe", desc := "(I)I" } : Jvm.MethodName) prog_2_method_4_code (4 : Nat) (Option.some Jvm.ClassFile.FieldType.int)) ∈ lw_T := lw_in2 65 rfl rfl
theorem t2_66 : (Jvm.Cond.methodLink "BuildDisk$Disk" (38 : Nat) ({ cls := "BuildDisk$Disk", name := "latestWrite", desc := "(I)I" } : Jvm.MethodName)) ∈ lw_T := lw_in2 66 rfl rfl
theorem t2_68 : (Jvm.Cond.instanceMethod ({ cls := "BuildDisk$Disk", name := "latestWrite", desc := "(I)I" } : Jvm.MethodName)) ∈ lw_T := lw_in2 68 rfl rfl
theorem t2_69 : (Jvm.Cond.code ({ cls := "BuildDisk$Disk", name := "latestWrite", desc := "(I)I" } : Jvm.MethodName) prog_2_method_7_code (3 : Nat) (Option.some Jvm.ClassFile.FieldType.int)) ∈ lw_T := lw_in2 69 rfl rfl
theorem t2_7 : (Jvm.Cond.methodLink "BuildDisk$Table" (87 : Nat) ({ cls := "BuildDisk$Table", name := "isUser", desc := "(I)Z" } : Jvm.MethodName)) ∈ lw_T := lw_in2 7 rfl rfl
theorem t2_70 : (Jvm.Cond.methodLink "BuildDisk" (240 : Nat) ({ cls := "BuildDisk$Table", name := "write", desc := "(I[BII)V" } : Jvm.MethodName)) ∈ lw_T := lw_in2 70 rfl rfl
theorem t2_71 : (Jvm.Cond.instanceMethod ({ cls := "BuildDisk$Table", name := "write", desc := "(I[BII)V" } : Jvm.MethodName)) ∈ lw_T := lw_in2 71 rfl rfl
theorem t2_72 : (Jvm.Cond.selects "BuildDisk$Table" ({ cls := "BuildDisk$Table", name := "write", desc := "(I[BII)V" } : Jvm.MethodName) ({ cls := "BuildDisk$Table", name := "write", desc := "(I[BII)V" } : Jvm.MethodName)) ∈ lw_T := lw_in2 72 rfl rfl
theorem t2_73 : (Jvm.Cond.code ({ cls := "BuildDisk$Table", name := "write", desc := "(I[BII)V" } : Jvm.MethodName) prog_5_method_21_code (7 : Nat) (Option.none : Option Jvm.ClassFile.FieldType)) ∈ lw_T := lw_in2 73 rfl rfl
theorem t2_74 : (Jvm.Cond.methodLink "BuildDisk$Table" (67 : Nat) ({ cls := "BuildDisk$Table", name := "askAt", desc := "(II)I" } : Jvm.MethodName)) ∈ lw_T := lw_in2 74 rfl rfl
theorem t2_75 : (Jvm.Cond.instanceMethod ({ cls := "BuildDisk$Table", name := "askAt", desc := "(II)I" } : Jvm.MethodName)) ∈ lw_T := lw_in2 75 rfl rfl
theorem t2_76 : (Jvm.Cond.selects "BuildDisk$Table" ({ cls := "BuildDisk$Table", name := "askAt", desc := "(II)I" } : Jvm.MethodName) ({ cls := "BuildDisk$Table", name := "askAt", desc := "(II)I" } : Jvm.MethodName)) ∈ lw_T := lw_in2 76 rfl rfl
theorem t2_77 : (Jvm.Cond.code ({ cls := "BuildDisk$Table", name := "askAt", desc := "(II)I" } : Jvm.MethodName) prog_5_method_10_code (3 : Nat) (Option.some Jvm.ClassFile.FieldType.int)) ∈ lw_T := lw_in2 77 rfl rfl
theorem t2_78 : (Jvm.Cond.methodLink "BuildDisk$Table" (71 : Nat) ({ cls := "BuildDisk$Numbers", name := "write", desc := "([BIIJ)V" } : Jvm.MethodName)) ∈ lw_T := lw_in2 78 rfl rfl
theorem t2_79 : (Jvm.Cond.methodLink "BuildDisk$Table" (77 : Nat) ({ cls := "BuildDisk$Numbers", name := "writeSum", desc := "([BIII)V" } : Jvm.MethodName)) ∈ lw_T := lw_in2 79 rfl rfl
theorem t2_8 : (Jvm.Cond.static ({ cls := "BuildDisk$Table", name := "isUser", desc := "(I)Z" } : Jvm.MethodName)) ∈ lw_T := lw_in2 8 rfl rfl
theorem t2_80 : (Jvm.Cond.methodLink "BuildDisk" (110 : Nat) ({ cls := "BuildDisk$Unkept", name := "put", desc := "(IJ)V" } : Jvm.MethodName)) ∈ lw_T := lw_in2 80 rfl rfl
theorem t2_81 : (Jvm.Cond.instanceMethod ({ cls := "BuildDisk$Unkept", name := "put", desc := "(IJ)V" } : Jvm.MethodName)) ∈ lw_T := lw_in2 81 rfl rfl
theorem t2_82 : (Jvm.Cond.selects "BuildDisk$Unkept" ({ cls := "BuildDisk$Unkept", name := "put", desc := "(IJ)V" } : Jvm.MethodName) ({ cls := "BuildDisk$Unkept", name := "put", desc := "(IJ)V" } : Jvm.MethodName)) ∈ lw_T := lw_in2 82 rfl rfl
theorem t2_83 : (Jvm.Cond.code ({ cls := "BuildDisk$Unkept", name := "put", desc := "(IJ)V" } : Jvm.MethodName) prog_6_method_5_code (4 : Nat) (Option.none : Option Jvm.ClassFile.FieldType)) ∈ lw_T := lw_in2 83 rfl rfl
theorem t2_84 : (Jvm.Cond.methodLink "BuildDisk" (114 : Nat) ({ cls := "BuildDisk$Unkept", name := "forget", desc := "(I)V" } : Jvm.MethodName)) ∈ lw_T := lw_in2 84 rfl rfl
theorem t2_85 : (Jvm.Cond.instanceMethod ({ cls := "BuildDisk$Unkept", name := "forget", desc := "(I)V" } : Jvm.MethodName)) ∈ lw_T := lw_in2 85 rfl rfl
theorem t2_86 : (Jvm.Cond.selects "BuildDisk$Unkept" ({ cls := "BuildDisk$Unkept", name := "forget", desc := "(I)V" } : Jvm.MethodName) ({ cls := "BuildDisk$Unkept", name := "forget", desc := "(I)V" } : Jvm.MethodName)) ∈ lw_T := lw_in2 86 rfl rfl
theorem t2_87 : (Jvm.Cond.code ({ cls := "BuildDisk$Unkept", name := "forget", desc := "(I)V" } : Jvm.MethodName) prog_6_method_6_code (2 : Nat) (Option.none : Option Jvm.ClassFile.FieldType)) ∈ lw_T := lw_in2 87 rfl rfl
theorem t2_88 : (Jvm.Cond.methodLink "BuildDiskLaw" (39 : Nat) ({ cls := "BuildDisk", name := "asks", desc := "(II)I" } : Jvm.MethodName)) ∈ lw_T := lw_in2 88 rfl rfl
theorem t2_89 : (Jvm.Cond.instanceMethod ({ cls := "BuildDisk", name := "asks", desc := "(II)I" } : Jvm.MethodName)) ∈ lw_T := lw_in2 89 rfl rfl
theorem t2_9 : (Jvm.Cond.code ({ cls := "BuildDisk$Table", name := "isUser", desc := "(I)Z" } : Jvm.MethodName) prog_5_method_3_code (1 : Nat) (Option.some Jvm.ClassFile.FieldType.boolean)) ∈ lw_T := lw_in2 9 rfl rfl
theorem t2_90 : (Jvm.Cond.selects "BuildDisk" ({ cls := "BuildDisk", name := "asks", desc := "(II)I" } : Jvm.MethodName) ({ cls := "BuildDisk", name := "asks", desc := "(II)I" } : Jvm.MethodName)) ∈ lw_T := lw_in2 90 rfl rfl
theorem t2_91 : (Jvm.Cond.code ({ cls := "BuildDisk", name := "asks", desc := "(II)I" } : Jvm.MethodName) prog_1_method_4_code (3 : Nat) (Option.some Jvm.ClassFile.FieldType.int)) ∈ lw_T := lw_in2 91 rfl rfl
theorem t2_92 : (Jvm.Cond.methodLink "BuildDisk" (117 : Nat) ({ cls := "BuildDisk$Table", name := "kindAt", desc := "(I)I" } : Jvm.MethodName)) ∈ lw_T := lw_in2 92 rfl rfl
theorem t2_93 : (Jvm.Cond.instanceMethod ({ cls := "BuildDisk$Table", name := "kindAt", desc := "(I)I" } : Jvm.MethodName)) ∈ lw_T := lw_in2 93 rfl rfl
theorem t2_94 : (Jvm.Cond.selects "BuildDisk$Table" ({ cls := "BuildDisk$Table", name := "kindAt", desc := "(I)I" } : Jvm.MethodName) ({ cls := "BuildDisk$Table", name := "kindAt", desc := "(I)I" } : Jvm.MethodName)) ∈ lw_T := lw_in2 94 rfl rfl
theorem t2_95 : (Jvm.Cond.code ({ cls := "BuildDisk$Table", name := "kindAt", desc := "(I)I" } : Jvm.MethodName) prog_5_method_8_code (2 : Nat) (Option.some Jvm.ClassFile.FieldType.int)) ∈ lw_T := lw_in2 95 rfl rfl
theorem t2_96 : (Jvm.Cond.methodLink "BuildDisk" (121 : Nat) ({ cls := "BuildDisk$Table", name := "askCount", desc := "(I)I" } : Jvm.MethodName)) ∈ lw_T := lw_in2 96 rfl rfl
theorem t2_97 : (Jvm.Cond.instanceMethod ({ cls := "BuildDisk$Table", name := "askCount", desc := "(I)I" } : Jvm.MethodName)) ∈ lw_T := lw_in2 97 rfl rfl
theorem t2_98 : (Jvm.Cond.selects "BuildDisk$Table" ({ cls := "BuildDisk$Table", name := "askCount", desc := "(I)I" } : Jvm.MethodName) ({ cls := "BuildDisk$Table", name := "askCount", desc := "(I)I" } : Jvm.MethodName)) ∈ lw_T := lw_in2 98 rfl rfl
theorem t2_99 : (Jvm.Cond.code ({ cls := "BuildDisk$Table", name := "askCount", desc := "(I)I" } : Jvm.MethodName) prog_5_method_9_code (2 : Nat) (Option.some Jvm.ClassFile.FieldType.int)) ∈ lw_T := lw_in2 99 rfl rfl
theorem t3_0 : (Jvm.Cond.instantiable "java/lang/ArrayIndexOutOfBoundsException" (6 : Nat)) ∈ lw_T := lw_in3 0 rfl rfl
theorem t3_100 : (Jvm.Cond.fieldLink "BuildDiskModel" (39 : Nat) "BuildDiskModel" "unkept" "[Z") ∈ lw_T := lw_in3 100 rfl rfl
theorem t3_101 : (Jvm.Cond.fieldLink "BuildDiskModel" (43 : Nat) "BuildDiskModel" "unkeptDigest" "[J") ∈ lw_T := lw_in3 101 rfl rfl
theorem t3_102 : (Jvm.Cond.lays "BuildDiskModel" "BuildDiskModel" "thrown" "I") ∈ lw_T := lw_in3 102 rfl rfl
theorem t3_104 : (Jvm.Cond.laysFinal "BuildDiskModel" "BuildDiskModel" "sectors" "I") ∈ lw_T := lw_in3 104 rfl rfl
theorem t3_106 : (Jvm.Cond.laysFinal "BuildDiskModel" "BuildDiskModel" "each" "I") ∈ lw_T := lw_in3 106 rfl rfl
theorem t3_108 : (Jvm.Cond.laysFinal "BuildDiskModel" "BuildDiskModel" "disk" "[I") ∈ lw_T := lw_in3 108 rfl rfl
theorem t3_110 : (Jvm.Cond.laysFinal "BuildDiskModel" "BuildDiskModel" "waiting" "[I") ∈ lw_T := lw_in3 110 rfl rfl
theorem t3_112 : (Jvm.Cond.laysFinal "BuildDiskModel" "BuildDiskModel" "where" "[I") ∈ lw_T := lw_in3 112 rfl rfl
theorem t3_114 : (Jvm.Cond.lays "BuildDiskModel" "BuildDiskModel" "waits" "I") ∈ lw_T := lw_in3 114 rfl rfl
theorem t3_116 : (Jvm.Cond.laysFinal "BuildDiskModel" "BuildDiskModel" "now" "[I") ∈ lw_T := lw_in3 116 rfl rfl
theorem t3_118 : (Jvm.Cond.lays "BuildDiskModel" "BuildDiskModel" "runs" "Z") ∈ lw_T := lw_in3 118 rfl rfl
theorem t3_120 : (Jvm.Cond.lays "BuildDiskModel" "BuildDiskModel" "edition" "I") ∈ lw_T := lw_in3 120 rfl rfl
theorem t3_122 : (Jvm.Cond.lays "BuildDiskModel" "BuildDiskModel" "wanted" "I") ∈ lw_T := lw_in3 122 rfl rfl
theorem t3_124 : (Jvm.Cond.lays "BuildDiskModel" "BuildDiskModel" "sequence" "I") ∈ lw_T := lw_in3 124 rfl rfl
theorem t3_126 : (Jvm.Cond.lays "BuildDiskModel" "BuildDiskModel" "area" "I") ∈ lw_T := lw_in3 126 rfl rfl
theorem t3_128 : (Jvm.Cond.lays "BuildDiskModel" "BuildDiskModel" "end" "I") ∈ lw_T := lw_in3 128 rfl rfl
theorem t3_130 : (Jvm.Cond.lays "BuildDiskModel" "BuildDiskModel" "settled" "I") ∈ lw_T := lw_in3 130 rfl rfl
theorem t3_132 : (Jvm.Cond.lays "BuildDiskModel" "BuildDiskModel" "wrongs" "I") ∈ lw_T := lw_in3 132 rfl rfl
theorem t3_134 : (Jvm.Cond.lays "BuildDiskModel" "BuildDiskModel" "taken" "I") ∈ lw_T := lw_in3 134 rfl rfl
theorem t3_136 : (Jvm.Cond.lays "BuildDiskModel" "BuildDiskModel" "copied" "I") ∈ lw_T := lw_in3 136 rfl rfl
theorem t3_138 : (Jvm.Cond.lays "BuildDiskModel" "BuildDiskModel" "compacts" "Z") ∈ lw_T := lw_in3 138 rfl rfl
theorem t3_140 : (Jvm.Cond.laysFinal "BuildDiskModel" "BuildDiskModel" "kind" "[I") ∈ lw_T := lw_in3 140 rfl rfl
theorem t3_142 : (Jvm.Cond.laysFinal "BuildDiskModel" "BuildDiskModel" "key" "[I") ∈ lw_T := lw_in3 142 rfl rfl
theorem t3_144 : (Jvm.Cond.laysFinal "BuildDiskModel" "BuildDiskModel" "many" "[I") ∈ lw_T := lw_in3 144 rfl rfl
theorem t3_146 : (Jvm.Cond.laysFinal "BuildDiskModel" "BuildDiskModel" "asked" "[I") ∈ lw_T := lw_in3 146 rfl rfl
theorem t3_148 : (Jvm.Cond.laysFinal "BuildDiskModel" "BuildDiskModel" "digest" "[J") ∈ lw_T := lw_in3 148 rfl rfl
theorem t3_150 : (Jvm.Cond.laysFinal "BuildDiskModel" "BuildDiskModel" "unkept" "[Z") ∈ lw_T := lw_in3 150 rfl rfl
theorem t3_152 : (Jvm.Cond.laysFinal "BuildDiskModel" "BuildDiskModel" "unkeptDigest" "[J") ∈ lw_T := lw_in3 152 rfl rfl
theorem t3_155 : (Jvm.Cond.methodLink "BuildDiskLaw" (31 : Nat) ({ cls := "BuildDiskModel", name := "start", desc := "()I" } : Jvm.MethodName)) ∈ lw_T := lw_in3 155 rfl rfl
theorem t3_156 : (Jvm.Cond.instanceMethod ({ cls := "BuildDiskModel", name := "start", desc := "()I" } : Jvm.MethodName)) ∈ lw_T := lw_in3 156 rfl rfl
theorem t3_157 : (Jvm.Cond.selects "BuildDiskModel" ({ cls := "BuildDiskModel", name := "start", desc := "()I" } : Jvm.MethodName) ({ cls := "BuildDiskModel", name := "start", desc := "()I" } : Jvm.MethodName)) ∈ lw_T := lw_in3 157 rfl rfl
theorem t3_158 : (Jvm.Cond.code ({ cls := "BuildDiskModel", name := "start", desc := "()I" } : Jvm.MethodName) prog_8_method_27_code (5 : Nat) (Option.some Jvm.ClassFile.FieldType.int)) ∈ lw_T := lw_in3 158 rfl rfl
theorem t3_159 : (Jvm.Cond.methodLink "BuildDiskModel" (136 : Nat) ({ cls := "BuildDiskModel", name := "isHead", desc := "(I)Z" } : Jvm.MethodName)) ∈ lw_T := lw_in3 159 rfl rfl
theorem t3_161 : (Jvm.Cond.instanceMethod ({ cls := "BuildDiskModel", name := "isHead", desc := "(I)Z" } : Jvm.MethodName)) ∈ lw_T := lw_in3 161 rfl rfl
theorem t3_162 : (Jvm.Cond.code ({ cls := "BuildDiskModel", name := "isHead", desc := "(I)Z" } : Jvm.MethodName) prog_8_method_25_code (3 : Nat) (Option.some Jvm.ClassFile.FieldType.boolean)) ∈ lw_T := lw_in3 162 rfl rfl
theorem t3_163 : (Jvm.Cond.methodLink "BuildDiskModel" (82 : Nat) ({ cls := "BuildDiskModel", name := "load", desc := "(I)V" } : Jvm.MethodName)) ∈ lw_T := lw_in3 163 rfl rfl
theorem t3_165 : (Jvm.Cond.instanceMethod ({ cls := "BuildDiskModel", name := "load", desc := "(I)V" } : Jvm.MethodName)) ∈ lw_T := lw_in3 165 rfl rfl
theorem t3_166 : (Jvm.Cond.code ({ cls := "BuildDiskModel", name := "load", desc := "(I)V" } : Jvm.MethodName) prog_8_method_7_code (4 : Nat) (Option.none : Option Jvm.ClassFile.FieldType)) ∈ lw_T := lw_in3 166 rfl rfl
theorem t3_167 : (Jvm.Cond.methodLink "BuildDiskModel" (104 : Nat) ({ cls := "BuildDiskModel", name := "number", desc := "(II)I" } : Jvm.MethodName)) ∈ lw_T := lw_in3 167 rfl rfl
theorem t3_169 : (Jvm.Cond.instanceMethod ({ cls := "BuildDiskModel", name := "number", desc := "(II)I" } : Jvm.MethodName)) ∈ lw_T := lw_in3 169 rfl rfl
theorem t3_170 : (Jvm.Cond.code ({ cls := "BuildDiskModel", name := "number", desc := "(II)I" } : Jvm.MethodName) prog_8_method_13_code (5 : Nat) (Option.some Jvm.ClassFile.FieldType.int)) ∈ lw_T := lw_in3 170 rfl rfl
theorem t3_171 : (Jvm.Cond.constant "BuildDiskModel" (131 : Nat) (2000000000 : Int32)) ∈ lw_T := lw_in3 171 rfl rfl
theorem t3_172 : (Jvm.Cond.methodLink "BuildDiskModel" (90 : Nat) ({ cls := "BuildDiskModel", name := "sum", desc := "(III)I" } : Jvm.MethodName)) ∈ lw_T := lw_in3 172 rfl rfl
theorem t3_174 : (Jvm.Cond.instanceMethod ({ cls := "BuildDiskModel", name := "sum", desc := "(III)I" } : Jvm.MethodName)) ∈ lw_T := lw_in3 174 rfl rfl
theorem t3_175 : (Jvm.Cond.code ({ cls := "BuildDiskModel", name := "sum", desc := "(III)I" } : Jvm.MethodName) prog_8_method_12_code (6 : Nat) (Option.some Jvm.ClassFile.FieldType.int)) ∈ lw_T := lw_in3 175 rfl rfl
theorem t3_176 : (Jvm.Cond.methodLink "BuildDiskModel" (74 : Nat) ({ cls := "BuildDiskModel", name := "turned", desc := "(II)I" } : Jvm.MethodName)) ∈ lw_T := lw_in3 176 rfl rfl
theorem t3_177 : (Jvm.Cond.static ({ cls := "BuildDiskModel", name := "turned", desc := "(II)I" } : Jvm.MethodName)) ∈ lw_T := lw_in3 177 rfl rfl
theorem t3_178 : (Jvm.Cond.code ({ cls := "BuildDiskModel", name := "turned", desc := "(II)I" } : Jvm.MethodName) prog_8_method_11_code (2 : Nat) (Option.some Jvm.ClassFile.FieldType.int)) ∈ lw_T := lw_in3 178 rfl rfl
theorem t3_179 : (Jvm.Cond.constant "BuildDiskModel" (78 : Nat) (-2048144777 : Int32)) ∈ lw_T := lw_in3 179 rfl rfl
theorem t3_180 : (Jvm.Cond.methodLink "BuildDiskModel" (139 : Nat) ({ cls := "BuildDiskModel", name := "zeros", desc := "(I)V" } : Jvm.MethodName)) ∈ lw_T := lw_in3 180 rfl rfl
theorem t3_182 : (Jvm.Cond.instanceMethod ({ cls := "BuildDiskModel", name := "zeros", desc := "(I)V" } : Jvm.MethodName)) ∈ lw_T := lw_in3 182 rfl rfl
theorem t3_183 : (Jvm.Cond.code ({ cls := "BuildDiskModel", name := "zeros", desc := "(I)V" } : Jvm.MethodName) prog_8_method_26_code (3 : Nat) (Option.none : Option Jvm.ClassFile.FieldType)) ∈ lw_T := lw_in3 183 rfl rfl
theorem t3_184 : (Jvm.Cond.methodLink "BuildDiskModel" (125 : Nat) ({ cls := "BuildDiskModel", name := "clear", desc := "()V" } : Jvm.MethodName)) ∈ lw_T := lw_in3 184 rfl rfl
theorem t3_186 : (Jvm.Cond.instanceMethod ({ cls := "BuildDiskModel", name := "clear", desc := "()V" } : Jvm.MethodName)) ∈ lw_T := lw_in3 186 rfl rfl
theorem t3_187 : (Jvm.Cond.code ({ cls := "BuildDiskModel", name := "clear", desc := "()V" } : Jvm.MethodName) prog_8_method_8_code (2 : Nat) (Option.none : Option Jvm.ClassFile.FieldType)) ∈ lw_T := lw_in3 187 rfl rfl
theorem t3_188 : (Jvm.Cond.methodLink "BuildDiskModel" (94 : Nat) ({ cls := "BuildDiskModel", name := "send", desc := "(I)V" } : Jvm.MethodName)) ∈ lw_T := lw_in3 188 rfl rfl
theorem t3_190 : (Jvm.Cond.instanceMethod ({ cls := "BuildDiskModel", name := "send", desc := "(I)V" } : Jvm.MethodName)) ∈ lw_T := lw_in3 190 rfl rfl
theorem t3_191 : (Jvm.Cond.code ({ cls := "BuildDiskModel", name := "send", desc := "(I)V" } : Jvm.MethodName) prog_8_method_9_code (3 : Nat) (Option.none : Option Jvm.ClassFile.FieldType)) ∈ lw_T := lw_in3 191 rfl rfl
theorem t3_192 : (Jvm.Cond.methodLink "BuildDiskModel" (69 : Nat) ({ cls := "BuildDiskModel", name := "bringAll", desc := "()V" } : Jvm.MethodName)) ∈ lw_T := lw_in3 192 rfl rfl
theorem t3_194 : (Jvm.Cond.instanceMethod ({ cls := "BuildDiskModel", name := "bringAll", desc := "()V" } : Jvm.MethodName)) ∈ lw_T := lw_in3 194 rfl rfl
theorem t3_195 : (Jvm.Cond.code ({ cls := "BuildDiskModel", name := "bringAll", desc := "()V" } : Jvm.MethodName) prog_8_method_6_code (2 : Nat) (Option.none : Option Jvm.ClassFile.FieldType)) ∈ lw_T := lw_in3 195 rfl rfl
theorem t3_196 : (Jvm.Cond.methodLink "BuildDiskModel" (65 : Nat) ({ cls := "BuildDiskModel", name := "bring", desc := "(II)V" } : Jvm.MethodName)) ∈ lw_T := lw_in3 196 rfl rfl
theorem t3_198 : (Jvm.Cond.instanceMethod ({ cls := "BuildDiskModel", name := "bring", desc := "(II)V" } : Jvm.MethodName)) ∈ lw_T := lw_in3 198 rfl rfl
theorem t3_199 : (Jvm.Cond.code ({ cls := "BuildDiskModel", name := "bring", desc := "(II)V" } : Jvm.MethodName) prog_8_method_5_code (4 : Nat) (Option.none : Option Jvm.ClassFile.FieldType)) ∈ lw_T := lw_in3 199 rfl rfl
theorem t3_200 : (Jvm.Cond.methodLink "BuildDiskModel" (142 : Nat) ({ cls := "BuildDiskModel", name := "read", desc := "(I)V" } : Jvm.MethodName)) ∈ lw_T := lw_in3 200 rfl rfl
theorem t3_202 : (Jvm.Cond.instanceMethod ({ cls := "BuildDiskModel", name := "read", desc := "(I)V" } : Jvm.MethodName)) ∈ lw_T := lw_in3 202 rfl rfl
theorem t3_203 : (Jvm.Cond.code ({ cls := "BuildDiskModel", name := "read", desc := "(I)V" } : Jvm.MethodName) prog_8_method_17_code (5 : Nat) (Option.none : Option Jvm.ClassFile.FieldType)) ∈ lw_T := lw_in3 203 rfl rfl
theorem t3_204 : (Jvm.Cond.methodLink "BuildDiskModel" (79 : Nat) ({ cls := "BuildDiskModel", name := "sectorOf", desc := "(II)I" } : Jvm.MethodName)) ∈ lw_T := lw_in3 204 rfl rfl
theorem t3_206 : (Jvm.Cond.instanceMethod ({ cls := "BuildDiskModel", name := "sectorOf", desc := "(II)I" } : Jvm.MethodName)) ∈ lw_T := lw_in3 206 rfl rfl
theorem t3_207 : (Jvm.Cond.code ({ cls := "BuildDiskModel", name := "sectorOf", desc := "(II)I" } : Jvm.MethodName) prog_8_method_14_code (3 : Nat) (Option.some Jvm.ClassFile.FieldType.int)) ∈ lw_T := lw_in3 207 rfl rfl
theorem t3_208 : (Jvm.Cond.methodLink "BuildDiskModel" (110 : Nat) ({ cls := "BuildDiskModel", name := "isRow", desc := "(I)Z" } : Jvm.MethodName)) ∈ lw_T := lw_in3 208 rfl rfl
theorem t3_210 : (Jvm.Cond.instanceMethod ({ cls := "BuildDiskModel", name := "isRow", desc := "(I)Z" } : Jvm.MethodName)) ∈ lw_T := lw_in3 210 rfl rfl
theorem t3_211 : (Jvm.Cond.code ({ cls := "BuildDiskModel", name := "isRow", desc := "(I)Z" } : Jvm.MethodName) prog_8_method_16_code (7 : Nat) (Option.some Jvm.ClassFile.FieldType.boolean)) ∈ lw_T := lw_in3 211 rfl rfl
theorem t3_212 : (Jvm.Cond.methodLink "BuildDiskModel" (97 : Nat) ({ cls := "BuildDiskModel", name := "isKey", desc := "(I)Z" } : Jvm.MethodName)) ∈ lw_T := lw_in3 212 rfl rfl
theorem t3_213 : (Jvm.Cond.static ({ cls := "BuildDiskModel", name := "isKey", desc := "(I)Z" } : Jvm.MethodName)) ∈ lw_T := lw_in3 213 rfl rfl
theorem t3_214 : (Jvm.Cond.code ({ cls := "BuildDiskModel", name := "isKey", desc := "(I)Z" } : Jvm.MethodName) prog_8_method_3_code (1 : Nat) (Option.some Jvm.ClassFile.FieldType.boolean)) ∈ lw_T := lw_in3 214 rfl rfl
theorem t3_215 : (Jvm.Cond.methodLink "BuildDiskModel" (101 : Nat) ({ cls := "BuildDiskModel", name := "isUser", desc := "(I)Z" } : Jvm.MethodName)) ∈ lw_T := lw_in3 215 rfl rfl
theorem t3_216 : (Jvm.Cond.static ({ cls := "BuildDiskModel", name := "isUser", desc := "(I)Z" } : Jvm.MethodName)) ∈ lw_T := lw_in3 216 rfl rfl
theorem t3_217 : (Jvm.Cond.code ({ cls := "BuildDiskModel", name := "isUser", desc := "(I)Z" } : Jvm.MethodName) prog_8_method_4_code (1 : Nat) (Option.some Jvm.ClassFile.FieldType.boolean)) ∈ lw_T := lw_in3 217 rfl rfl
theorem t3_218 : (Jvm.Cond.constantLong "BuildDiskModel" (113 : Nat) (4294967295 : Int64)) ∈ lw_T := lw_in3 218 rfl rfl
theorem t3_219 : (Jvm.Cond.methodLink "BuildDiskModel" (145 : Nat) ({ cls := "BuildDiskModel", name := "changeHeads", desc := "()V" } : Jvm.MethodName)) ∈ lw_T := lw_in3 219 rfl rfl
theorem t3_221 : (Jvm.Cond.instanceMethod ({ cls := "BuildDiskModel", name := "changeHeads", desc := "()V" } : Jvm.MethodName)) ∈ lw_T := lw_in3 221 rfl rfl
theorem t3_222 : (Jvm.Cond.code ({ cls := "BuildDiskModel", name := "changeHeads", desc := "()V" } : Jvm.MethodName) prog_8_method_24_code (1 : Nat) (Option.none : Option Jvm.ClassFile.FieldType)) ∈ lw_T := lw_in3 222 rfl rfl
theorem t3_223 : (Jvm.Cond.methodLink "BuildDiskModel" (128 : Nat) ({ cls := "BuildDiskModel", name := "head", desc := "()V" } : Jvm.MethodName)) ∈ lw_T := lw_in3 223 rfl rfl
theorem t3_225 : (Jvm.Cond.instanceMethod ({ cls := "BuildDiskModel", name := "head", desc := "()V" } : Jvm.MethodName)) ∈ lw_T := lw_in3 225 rfl rfl
theorem t3_226 : (Jvm.Cond.code ({ cls := "BuildDiskModel", name := "head", desc := "()V" } : Jvm.MethodName) prog_8_method_23_code (1 : Nat) (Option.none : Option Jvm.ClassFile.FieldType)) ∈ lw_T := lw_in3 226 rfl rfl
theorem t3_227 : (Jvm.Cond.methodLink "BuildDiskModel" (86 : Nat) ({ cls := "BuildDiskModel", name := "put", desc := "(IJI)V" } : Jvm.MethodName)) ∈ lw_T := lw_in3 227 rfl rfl
theorem t3_229 : (Jvm.Cond.instanceMethod ({ cls := "BuildDiskModel", name := "put", desc := "(IJI)V" } : Jvm.MethodName)) ∈ lw_T := lw_in3 229 rfl rfl
theorem t3_230 : (Jvm.Cond.code ({ cls := "BuildDiskModel", name := "put", desc := "(IJI)V" } : Jvm.MethodName) prog_8_method_10_code (6 : Nat) (Option.none : Option Jvm.ClassFile.FieldType)) ∈ lw_T := lw_in3 230 rfl rfl
theorem t3_231 : (Jvm.Cond.constantLong "BuildDiskModel" (72 : Nat) (255 : Int64)) ∈ lw_T := lw_in3 231 rfl rfl
theorem t3_232 : (Jvm.Cond.methodLink "BuildDiskLaw" (38 : Nat) ({ cls := "BuildDiskModel", name := "row", desc := "(IJ)I" } : Jvm.MethodName)) ∈ lw_T := lw_in3 232 rfl rfl
theorem t3_233 : (Jvm.Cond.instanceMethod ({ cls := "BuildDiskModel", name := "row", desc := "(IJ)I" } : Jvm.MethodName)) ∈ lw_T := lw_in3 233 rfl rfl
theorem t3_234 : (Jvm.Cond.selects "BuildDiskModel" ({ cls := "BuildDiskModel", name := "row", desc := "(IJ)I" } : Jvm.MethodName) ({ cls := "BuildDiskModel", name := "row", desc := "(IJ)I" } : Jvm.MethodName)) ∈ lw_T := lw_in3 234 rfl rfl
theorem t3_235 : (Jvm.Cond.code ({ cls := "BuildDiskModel", name := "row", desc := "(IJ)I" } : Jvm.MethodName) prog_8_method_28_code (5 : Nat) (Option.some Jvm.ClassFile.FieldType.int)) ∈ lw_T := lw_in3 235 rfl rfl
theorem t3_236 : (Jvm.Cond.methodLink "BuildDiskModel" (154 : Nat) ({ cls := "BuildDiskModel", name := "keep", desc := "(IIJ)I" } : Jvm.MethodName)) ∈ lw_T := lw_in3 236 rfl rfl
theorem t3_238 : (Jvm.Cond.instanceMethod ({ cls := "BuildDiskModel", name := "keep", desc := "(IIJ)I" } : Jvm.MethodName)) ∈ lw_T := lw_in3 238 rfl rfl
theorem t3_239 : (Jvm.Cond.code ({ cls := "BuildDiskModel", name := "keep", desc := "(IIJ)I" } : Jvm.MethodName) prog_8_method_22_code (5 : Nat) (Option.some Jvm.ClassFile.FieldType.int)) ∈ lw_T := lw_in3 239 rfl rfl
theorem t3_69 : (Jvm.Cond.classLink "BuildDiskLaw" (24 : Nat) "BuildDiskModel") ∈ lw_T := lw_in3 69 rfl rfl
theorem t3_70 : (Jvm.Cond.instantiable "BuildDiskModel" (26 : Nat)) ∈ lw_T := lw_in3 70 rfl rfl
theorem t3_71 : (Jvm.Cond.methodLink "BuildDiskLaw" (26 : Nat) ({ cls := "BuildDiskModel", name := "<init>", desc := "(I)V" } : Jvm.MethodName)) ∈ lw_T := lw_in3 71 rfl rfl
theorem t3_72 : (Jvm.Cond.instanceMethod ({ cls := "BuildDiskModel", name := "<init>", desc := "(I)V" } : Jvm.MethodName)) ∈ lw_T := lw_in3 72 rfl rfl
theorem t3_73 : (Jvm.Cond.code ({ cls := "BuildDiskModel", name := "<init>", desc := "(I)V" } : Jvm.MethodName) prog_8_method_1_code (2 : Nat) (Option.none : Option Jvm.ClassFile.FieldType)) ∈ lw_T := lw_in3 73 rfl rfl
theorem t3_74 : (Jvm.Cond.methodLink "BuildDiskModel" (1 : Nat) ({ cls := "java/lang/Object", name := "<init>", desc := "()V" } : Jvm.MethodName)) ∈ lw_T := lw_in3 74 rfl rfl
theorem t3_75 : (Jvm.Cond.constant "BuildDiskModel" (13 : Nat) (32768 : Int32)) ∈ lw_T := lw_in3 75 rfl rfl
theorem t3_76 : (Jvm.Cond.fieldLink "BuildDiskModel" (59 : Nat) "BuildDiskModel" "thrown" "I") ∈ lw_T := lw_in3 76 rfl rfl
theorem t3_77 : (Jvm.Cond.fieldLink "BuildDiskModel" (46 : Nat) "BuildDiskModel" "sectors" "I") ∈ lw_T := lw_in3 77 rfl rfl
theorem t3_78 : (Jvm.Cond.fieldLink "BuildDiskModel" (50 : Nat) "BuildDiskModel" "each" "I") ∈ lw_T := lw_in3 78 rfl rfl
theorem t3_79 : (Jvm.Cond.fieldLink "BuildDiskModel" (7 : Nat) "BuildDiskModel" "disk" "[I") ∈ lw_T := lw_in3 79 rfl rfl
theorem t3_80 : (Jvm.Cond.fieldLink "BuildDiskModel" (14 : Nat) "BuildDiskModel" "waiting" "[I") ∈ lw_T := lw_in3 80 rfl rfl
theorem t3_81 : (Jvm.Cond.fieldLink "BuildDiskModel" (17 : Nat) "BuildDiskModel" "where" "[I") ∈ lw_T := lw_in3 81 rfl rfl
theorem t3_82 : (Jvm.Cond.fieldLink "BuildDiskModel" (62 : Nat) "BuildDiskModel" "waits" "I") ∈ lw_T := lw_in3 82 rfl rfl
theorem t3_83 : (Jvm.Cond.fieldLink "BuildDiskModel" (20 : Nat) "BuildDiskModel" "now" "[I") ∈ lw_T := lw_in3 83 rfl rfl
theorem t3_84 : (Jvm.Cond.fieldLink "BuildDiskModel" (132 : Nat) "BuildDiskModel" "runs" "Z") ∈ lw_T := lw_in3 84 rfl rfl
theorem t3_85 : (Jvm.Cond.fieldLink "BuildDiskModel" (53 : Nat) "BuildDiskModel" "edition" "I") ∈ lw_T := lw_in3 85 rfl rfl
theorem t3_86 : (Jvm.Cond.fieldLink "BuildDiskModel" (56 : Nat) "BuildDiskModel" "wanted" "I") ∈ lw_T := lw_in3 86 rfl rfl
theorem t3_87 : (Jvm.Cond.fieldLink "BuildDiskModel" (122 : Nat) "BuildDiskModel" "sequence" "I") ∈ lw_T := lw_in3 87 rfl rfl
theorem t3_88 : (Jvm.Cond.fieldLink "BuildDiskModel" (107 : Nat) "BuildDiskModel" "area" "I") ∈ lw_T := lw_in3 88 rfl rfl
theorem t3_89 : (Jvm.Cond.fieldLink "BuildDiskModel" (115 : Nat) "BuildDiskModel" "end" "I") ∈ lw_T := lw_in3 89 rfl rfl
theorem t3_90 : (Jvm.Cond.fieldLink "BuildDiskModel" (148 : Nat) "BuildDiskModel" "settled" "I") ∈ lw_T := lw_in3 90 rfl rfl
theorem t3_91 : (Jvm.Cond.fieldLink "BuildDiskModel" (151 : Nat) "BuildDiskModel" "wrongs" "I") ∈ lw_T := lw_in3 91 rfl rfl
theorem t3_92 : (Jvm.Cond.fieldLink "BuildDiskModel" (161 : Nat) "BuildDiskModel" "taken" "I") ∈ lw_T := lw_in3 92 rfl rfl
theorem t3_93 : (Jvm.Cond.fieldLink "BuildDiskModel" (164 : Nat) "BuildDiskModel" "copied" "I") ∈ lw_T := lw_in3 93 rfl rfl
theorem t3_94 : (Jvm.Cond.fieldLink "BuildDiskModel" (158 : Nat) "BuildDiskModel" "compacts" "Z") ∈ lw_T := lw_in3 94 rfl rfl
theorem t3_95 : (Jvm.Cond.fieldLink "BuildDiskModel" (23 : Nat) "BuildDiskModel" "kind" "[I") ∈ lw_T := lw_in3 95 rfl rfl
theorem t3_96 : (Jvm.Cond.fieldLink "BuildDiskModel" (26 : Nat) "BuildDiskModel" "key" "[I") ∈ lw_T := lw_in3 96 rfl rfl
theorem t3_97 : (Jvm.Cond.fieldLink "BuildDiskModel" (29 : Nat) "BuildDiskModel" "many" "[I") ∈ lw_T := lw_in3 97 rfl rfl
theorem t3_98 : (Jvm.Cond.fieldLink "BuildDiskModel" (32 : Nat) "BuildDiskModel" "asked" "[I") ∈ lw_T := lw_in3 98 rfl rfl
theorem t3_99 : (Jvm.Cond.fieldLink "BuildDiskModel" (35 : Nat) "BuildDiskModel" "digest" "[J") ∈ lw_T := lw_in3 99 rfl rfl
theorem t4_0 : (Jvm.Cond.methodLink "BuildDiskModel" (118 : Nat) ({ cls := "BuildDiskModel", name := "write", desc := "(III)V" } : Jvm.MethodName)) ∈ lw_T := lw_in4 0 rfl rfl
theorem t4_10 : (Jvm.Cond.selects "BuildDiskModel" ({ cls := "BuildDiskModel", name := "sync", desc := "()I" } : Jvm.MethodName) ({ cls := "BuildDiskModel", name := "sync", desc := "()I" } : Jvm.MethodName)) ∈ lw_T := lw_in4 10 rfl rfl
theorem t4_11 : (Jvm.Cond.code ({ cls := "BuildDiskModel", name := "sync", desc := "()I" } : Jvm.MethodName) prog_8_method_30_code (2 : Nat) (Option.some Jvm.ClassFile.FieldType.int)) ∈ lw_T := lw_in4 11 rfl rfl
theorem t4_12 : (Jvm.Cond.methodLink "BuildDiskLaw" (52 : Nat) ({ cls := "BuildDiskModel", name := "compact", desc := "(I)I" } : Jvm.MethodName)) ∈ lw_T := lw_in4 12 rfl rfl
theorem t4_13 : (Jvm.Cond.instanceMethod ({ cls := "BuildDiskModel", name := "compact", desc := "(I)I" } : Jvm.MethodName)) ∈ lw_T := lw_in4 13 rfl rfl
theorem t4_14 : (Jvm.Cond.selects "BuildDiskModel" ({ cls := "BuildDiskModel", name := "compact", desc := "(I)I" } : Jvm.MethodName) ({ cls := "BuildDiskModel", name := "compact", desc := "(I)I" } : Jvm.MethodName)) ∈ lw_T := lw_in4 14 rfl rfl
theorem t4_15 : (Jvm.Cond.code ({ cls := "BuildDiskModel", name := "compact", desc := "(I)I" } : Jvm.MethodName) prog_8_method_32_code (4 : Nat) (Option.some Jvm.ClassFile.FieldType.int)) ∈ lw_T := lw_in4 15 rfl rfl
theorem t4_16 : (Jvm.Cond.methodLink "BuildDiskModel" (181 : Nat) ({ cls := "BuildDiskModel", name := "step", desc := "()Z" } : Jvm.MethodName)) ∈ lw_T := lw_in4 16 rfl rfl
theorem t4_18 : (Jvm.Cond.instanceMethod ({ cls := "BuildDiskModel", name := "step", desc := "()Z" } : Jvm.MethodName)) ∈ lw_T := lw_in4 18 rfl rfl
theorem t4_19 : (Jvm.Cond.code ({ cls := "BuildDiskModel", name := "step", desc := "()Z" } : Jvm.MethodName) prog_8_method_31_code (3 : Nat) (Option.some Jvm.ClassFile.FieldType.boolean)) ∈ lw_T := lw_in4 19 rfl rfl
theorem t4_2 : (Jvm.Cond.instanceMethod ({ cls := "BuildDiskModel", name := "write", desc := "(III)V" } : Jvm.MethodName)) ∈ lw_T := lw_in4 2 rfl rfl
theorem t4_20 : (Jvm.Cond.methodLink "BuildDiskModel" (167 : Nat) ({ cls := "BuildDiskModel", name := "latest", desc := "(I)I" } : Jvm.MethodName)) ∈ lw_T := lw_in4 20 rfl rfl
theorem t4_22 : (Jvm.Cond.instanceMethod ({ cls := "BuildDiskModel", name := "latest", desc := "(I)I" } : Jvm.MethodName)) ∈ lw_T := lw_in4 22 rfl rfl
theorem t4_23 : (Jvm.Cond.code ({ cls := "BuildDiskModel", name := "latest", desc := "(I)I" } : Jvm.MethodName) prog_8_method_19_code (4 : Nat) (Option.some Jvm.ClassFile.FieldType.int)) ∈ lw_T := lw_in4 23 rfl rfl
theorem t4_24 : (Jvm.Cond.methodLink "BuildDiskModel" (171 : Nat) ({ cls := "BuildDiskModel", name := "isWrongBehind", desc := "(I)Z" } : Jvm.MethodName)) ∈ lw_T := lw_in4 24 rfl rfl
theorem t4_26 : (Jvm.Cond.instanceMethod ({ cls := "BuildDiskModel", name := "isWrongBehind", desc := "(I)Z" } : Jvm.MethodName)) ∈ lw_T := lw_in4 26 rfl rfl
theorem t4_27 : (Jvm.Cond.code ({ cls := "BuildDiskModel", name := "isWrongBehind", desc := "(I)Z" } : Jvm.MethodName) prog_8_method_21_code (4 : Nat) (Option.some Jvm.ClassFile.FieldType.boolean)) ∈ lw_T := lw_in4 27 rfl rfl
theorem t4_28 : (Jvm.Cond.methodLink "BuildDiskModel" (174 : Nat) ({ cls := "BuildDiskModel", name := "lockRow", desc := "()I" } : Jvm.MethodName)) ∈ lw_T := lw_in4 28 rfl rfl
theorem t4_3 : (Jvm.Cond.code ({ cls := "BuildDiskModel", name := "write", desc := "(III)V" } : Jvm.MethodName) prog_8_method_15_code (6 : Nat) (Option.none : Option Jvm.ClassFile.FieldType)) ∈ lw_T := lw_in4 3 rfl rfl
theorem t4_30 : (Jvm.Cond.instanceMethod ({ cls := "BuildDiskModel", name := "lockRow", desc := "()I" } : Jvm.MethodName)) ∈ lw_T := lw_in4 30 rfl rfl
theorem t4_31 : (Jvm.Cond.code ({ cls := "BuildDiskModel", name := "lockRow", desc := "()I" } : Jvm.MethodName) prog_8_method_20_code (3 : Nat) (Option.some Jvm.ClassFile.FieldType.int)) ∈ lw_T := lw_in4 31 rfl rfl
theorem t4_32 : (Jvm.Cond.methodLink "BuildDiskModel" (178 : Nat) ({ cls := "BuildDiskModel", name := "copyRow", desc := "(II)V" } : Jvm.MethodName)) ∈ lw_T := lw_in4 32 rfl rfl
theorem t4_34 : (Jvm.Cond.instanceMethod ({ cls := "BuildDiskModel", name := "copyRow", desc := "(II)V" } : Jvm.MethodName)) ∈ lw_T := lw_in4 34 rfl rfl
theorem t4_35 : (Jvm.Cond.code ({ cls := "BuildDiskModel", name := "copyRow", desc := "(II)V" } : Jvm.MethodName) prog_8_method_18_code (4 : Nat) (Option.none : Option Jvm.ClassFile.FieldType)) ∈ lw_T := lw_in4 35 rfl rfl
theorem t4_36 : (Jvm.Cond.methodLink "BuildDiskLaw" (57 : Nat) ({ cls := "BuildDiskModel", name := "cut", desc := "(II)V" } : Jvm.MethodName)) ∈ lw_T := lw_in4 36 rfl rfl
theorem t4_37 : (Jvm.Cond.instanceMethod ({ cls := "BuildDiskModel", name := "cut", desc := "(II)V" } : Jvm.MethodName)) ∈ lw_T := lw_in4 37 rfl rfl
theorem t4_38 : (Jvm.Cond.selects "BuildDiskModel" ({ cls := "BuildDiskModel", name := "cut", desc := "(II)V" } : Jvm.MethodName) ({ cls := "BuildDiskModel", name := "cut", desc := "(II)V" } : Jvm.MethodName)) ∈ lw_T := lw_in4 38 rfl rfl
theorem t4_39 : (Jvm.Cond.code ({ cls := "BuildDiskModel", name := "cut", desc := "(II)V" } : Jvm.MethodName) prog_8_method_33_code (6 : Nat) (Option.none : Option Jvm.ClassFile.FieldType)) ∈ lw_T := lw_in4 39 rfl rfl
theorem t4_4 : (Jvm.Cond.methodLink "BuildDiskLaw" (43 : Nat) ({ cls := "BuildDiskModel", name := "asks", desc := "(II)I" } : Jvm.MethodName)) ∈ lw_T := lw_in4 4 rfl rfl
theorem t4_40 : (Jvm.Cond.methodLink "BuildDiskLaw" (62 : Nat) ({ cls := "BuildDiskModel", name := "digest", desc := "(I)J" } : Jvm.MethodName)) ∈ lw_T := lw_in4 40 rfl rfl
theorem t4_41 : (Jvm.Cond.instanceMethod ({ cls := "BuildDiskModel", name := "digest", desc := "(I)J" } : Jvm.MethodName)) ∈ lw_T := lw_in4 41 rfl rfl
theorem t4_42 : (Jvm.Cond.selects "BuildDiskModel" ({ cls := "BuildDiskModel", name := "digest", desc := "(I)J" } : Jvm.MethodName) ({ cls := "BuildDiskModel", name := "digest", desc := "(I)J" } : Jvm.MethodName)) ∈ lw_T := lw_in4 42 rfl rfl
theorem t4_43 : (Jvm.Cond.code ({ cls := "BuildDiskModel", name := "digest", desc := "(I)J" } : Jvm.MethodName) prog_8_method_34_code (3 : Nat) (Option.some Jvm.ClassFile.FieldType.long)) ∈ lw_T := lw_in4 43 rfl rfl
theorem t4_44 : (Jvm.Cond.methodLink "BuildDiskLaw" (66 : Nat) ({ cls := "BuildDiskModel", name := "asked", desc := "(II)I" } : Jvm.MethodName)) ∈ lw_T := lw_in4 44 rfl rfl
theorem t4_45 : (Jvm.Cond.instanceMethod ({ cls := "BuildDiskModel", name := "asked", desc := "(II)I" } : Jvm.MethodName)) ∈ lw_T := lw_in4 45 rfl rfl
theorem t4_46 : (Jvm.Cond.selects "BuildDiskModel" ({ cls := "BuildDiskModel", name := "asked", desc := "(II)I" } : Jvm.MethodName) ({ cls := "BuildDiskModel", name := "asked", desc := "(II)I" } : Jvm.MethodName)) ∈ lw_T := lw_in4 46 rfl rfl
theorem t4_47 : (Jvm.Cond.code ({ cls := "BuildDiskModel", name := "asked", desc := "(II)I" } : Jvm.MethodName) prog_8_method_35_code (4 : Nat) (Option.some Jvm.ClassFile.FieldType.int)) ∈ lw_T := lw_in4 47 rfl rfl
theorem t4_48 : (Jvm.Cond.methodLink "BuildDiskLaw" (71 : Nat) ({ cls := "BuildDiskModel", name := "sure", desc := "(I)Z" } : Jvm.MethodName)) ∈ lw_T := lw_in4 48 rfl rfl
theorem t4_49 : (Jvm.Cond.instanceMethod ({ cls := "BuildDiskModel", name := "sure", desc := "(I)Z" } : Jvm.MethodName)) ∈ lw_T := lw_in4 49 rfl rfl
theorem t4_5 : (Jvm.Cond.instanceMethod ({ cls := "BuildDiskModel", name := "asks", desc := "(II)I" } : Jvm.MethodName)) ∈ lw_T := lw_in4 5 rfl rfl
theorem t4_50 : (Jvm.Cond.selects "BuildDiskModel" ({ cls := "BuildDiskModel", name := "sure", desc := "(I)Z" } : Jvm.MethodName) ({ cls := "BuildDiskModel", name := "sure", desc := "(I)Z" } : Jvm.MethodName)) ∈ lw_T := lw_in4 50 rfl rfl
theorem t4_51 : (Jvm.Cond.code ({ cls := "BuildDiskModel", name := "sure", desc := "(I)Z" } : Jvm.MethodName) prog_8_method_36_code (6 : Nat) (Option.some Jvm.ClassFile.FieldType.boolean)) ∈ lw_T := lw_in4 51 rfl rfl
theorem t4_52 : (Jvm.Cond.methodLink "BuildDiskLaw" (75 : Nat) ({ cls := "BuildDiskModel", name := "sector", desc := "(II)B" } : Jvm.MethodName)) ∈ lw_T := lw_in4 52 rfl rfl
theorem t4_53 : (Jvm.Cond.instanceMethod ({ cls := "BuildDiskModel", name := "sector", desc := "(II)B" } : Jvm.MethodName)) ∈ lw_T := lw_in4 53 rfl rfl
theorem t4_54 : (Jvm.Cond.selects "BuildDiskModel" ({ cls := "BuildDiskModel", name := "sector", desc := "(II)B" } : Jvm.MethodName) ({ cls := "BuildDiskModel", name := "sector", desc := "(II)B" } : Jvm.MethodName)) ∈ lw_T := lw_in4 54 rfl rfl
theorem t4_55 : (Jvm.Cond.code ({ cls := "BuildDiskModel", name := "sector", desc := "(II)B" } : Jvm.MethodName) prog_8_method_37_code (3 : Nat) (Option.some Jvm.ClassFile.FieldType.byte)) ∈ lw_T := lw_in4 55 rfl rfl
theorem t4_56 : (Jvm.Cond.methodLink "BuildDiskLaw" (79 : Nat) ({ cls := "BuildDiskModel", name := "poke", desc := "(II)I" } : Jvm.MethodName)) ∈ lw_T := lw_in4 56 rfl rfl
theorem t4_57 : (Jvm.Cond.instanceMethod ({ cls := "BuildDiskModel", name := "poke", desc := "(II)I" } : Jvm.MethodName)) ∈ lw_T := lw_in4 57 rfl rfl
theorem t4_58 : (Jvm.Cond.selects "BuildDiskModel" ({ cls := "BuildDiskModel", name := "poke", desc := "(II)I" } : Jvm.MethodName) ({ cls := "BuildDiskModel", name := "poke", desc := "(II)I" } : Jvm.MethodName)) ∈ lw_T := lw_in4 58 rfl rfl
theorem t4_59 : (Jvm.Cond.code ({ cls := "BuildDiskModel", name := "poke", desc := "(II)I" } : Jvm.MethodName) prog_8_method_38_code (3 : Nat) (Option.some Jvm.ClassFile.FieldType.int)) ∈ lw_T := lw_in4 59 rfl rfl
theorem t4_6 : (Jvm.Cond.selects "BuildDiskModel" ({ cls := "BuildDiskModel", name := "asks", desc := "(II)I" } : Jvm.MethodName) ({ cls := "BuildDiskModel", name := "asks", desc := "(II)I" } : Jvm.MethodName)) ∈ lw_T := lw_in4 6 rfl rfl
theorem t4_60 : (Jvm.Cond.methodLink "BuildDiskLaw" (83 : Nat) ({ cls := "BuildDiskModel", name := "wrong", desc := "()I" } : Jvm.MethodName)) ∈ lw_T := lw_in4 60 rfl rfl
theorem t4_61 : (Jvm.Cond.instanceMethod ({ cls := "BuildDiskModel", name := "wrong", desc := "()I" } : Jvm.MethodName)) ∈ lw_T := lw_in4 61 rfl rfl
theorem t4_62 : (Jvm.Cond.selects "BuildDiskModel" ({ cls := "BuildDiskModel", name := "wrong", desc := "()I" } : Jvm.MethodName) ({ cls := "BuildDiskModel", name := "wrong", desc := "()I" } : Jvm.MethodName)) ∈ lw_T := lw_in4 62 rfl rfl
theorem t4_63 : (Jvm.Cond.code ({ cls := "BuildDiskModel", name := "wrong", desc := "()I" } : Jvm.MethodName) prog_8_method_39_code (1 : Nat) (Option.some Jvm.ClassFile.FieldType.int)) ∈ lw_T := lw_in4 63 rfl rfl
theorem t4_64 : (Jvm.Cond.methodLink "BuildDiskLaw" (87 : Nat) ({ cls := "BuildDiskModel", name := "lock", desc := "(I)I" } : Jvm.MethodName)) ∈ lw_T := lw_in4 64 rfl rfl
theorem t4_65 : (Jvm.Cond.instanceMethod ({ cls := "BuildDiskModel", name := "lock", desc := "(I)I" } : Jvm.MethodName)) ∈ lw_T := lw_in4 65 rfl rfl
theorem t4_66 : (Jvm.Cond.selects "BuildDiskModel" ({ cls := "BuildDiskModel", name := "lock", desc := "(I)I" } : Jvm.MethodName) ({ cls := "BuildDiskModel", name := "lock", desc := "(I)I" } : Jvm.MethodName)) ∈ lw_T := lw_in4 66 rfl rfl
theorem t4_67 : (Jvm.Cond.code ({ cls := "BuildDiskModel", name := "lock", desc := "(I)I" } : Jvm.MethodName) prog_8_method_41_code (3 : Nat) (Option.some Jvm.ClassFile.FieldType.int)) ∈ lw_T := lw_in4 67 rfl rfl
theorem t4_68 : (Jvm.Cond.methodLink "BuildDiskModel" (185 : Nat) ({ cls := "BuildDiskModel", name := "holder", desc := "()I" } : Jvm.MethodName)) ∈ lw_T := lw_in4 68 rfl rfl
theorem t4_7 : (Jvm.Cond.code ({ cls := "BuildDiskModel", name := "asks", desc := "(II)I" } : Jvm.MethodName) prog_8_method_29_code (3 : Nat) (Option.some Jvm.ClassFile.FieldType.int)) ∈ lw_T := lw_in4 7 rfl rfl
theorem t4_70 : (Jvm.Cond.instanceMethod ({ cls := "BuildDiskModel", name := "holder", desc := "()I" } : Jvm.MethodName)) ∈ lw_T := lw_in4 70 rfl rfl
theorem t4_71 : (Jvm.Cond.code ({ cls := "BuildDiskModel", name := "holder", desc := "()I" } : Jvm.MethodName) prog_8_method_40_code (2 : Nat) (Option.some Jvm.ClassFile.FieldType.int)) ∈ lw_T := lw_in4 71 rfl rfl
theorem t4_72 : (Jvm.Cond.methodLink "BuildDiskLaw" (91 : Nat) ({ cls := "BuildDiskModel", name := "dead", desc := "(I)I" } : Jvm.MethodName)) ∈ lw_T := lw_in4 72 rfl rfl
theorem t4_73 : (Jvm.Cond.instanceMethod ({ cls := "BuildDiskModel", name := "dead", desc := "(I)I" } : Jvm.MethodName)) ∈ lw_T := lw_in4 73 rfl rfl
theorem t4_74 : (Jvm.Cond.selects "BuildDiskModel" ({ cls := "BuildDiskModel", name := "dead", desc := "(I)I" } : Jvm.MethodName) ({ cls := "BuildDiskModel", name := "dead", desc := "(I)I" } : Jvm.MethodName)) ∈ lw_T := lw_in4 74 rfl rfl
theorem t4_75 : (Jvm.Cond.code ({ cls := "BuildDiskModel", name := "dead", desc := "(I)I" } : Jvm.MethodName) prog_8_method_42_code (2 : Nat) (Option.some Jvm.ClassFile.FieldType.int)) ∈ lw_T := lw_in4 75 rfl rfl
theorem t4_76 : (Jvm.Cond.methodLink "BuildDiskLaw" (95 : Nat) ({ cls := "BuildDiskModel", name := "edition", desc := "(I)I" } : Jvm.MethodName)) ∈ lw_T := lw_in4 76 rfl rfl
theorem t4_77 : (Jvm.Cond.instanceMethod ({ cls := "BuildDiskModel", name := "edition", desc := "(I)I" } : Jvm.MethodName)) ∈ lw_T := lw_in4 77 rfl rfl
theorem t4_78 : (Jvm.Cond.selects "BuildDiskModel" ({ cls := "BuildDiskModel", name := "edition", desc := "(I)I" } : Jvm.MethodName) ({ cls := "BuildDiskModel", name := "edition", desc := "(I)I" } : Jvm.MethodName)) ∈ lw_T := lw_in4 78 rfl rfl
theorem t4_79 : (Jvm.Cond.code ({ cls := "BuildDiskModel", name := "edition", desc := "(I)I" } : Jvm.MethodName) prog_8_method_43_code (2 : Nat) (Option.some Jvm.ClassFile.FieldType.int)) ∈ lw_T := lw_in4 79 rfl rfl
theorem t4_8 : (Jvm.Cond.methodLink "BuildDiskLaw" (47 : Nat) ({ cls := "BuildDiskModel", name := "sync", desc := "()I" } : Jvm.MethodName)) ∈ lw_T := lw_in4 8 rfl rfl
theorem t4_80 : (Jvm.Cond.methodLink "BuildDiskLaw" (99 : Nat) ({ cls := "BuildDiskModel", name := "about", desc := "(I)I" } : Jvm.MethodName)) ∈ lw_T := lw_in4 80 rfl rfl
theorem t4_81 : (Jvm.Cond.instanceMethod ({ cls := "BuildDiskModel", name := "about", desc := "(I)I" } : Jvm.MethodName)) ∈ lw_T := lw_in4 81 rfl rfl
theorem t4_82 : (Jvm.Cond.selects "BuildDiskModel" ({ cls := "BuildDiskModel", name := "about", desc := "(I)I" } : Jvm.MethodName) ({ cls := "BuildDiskModel", name := "about", desc := "(I)I" } : Jvm.MethodName)) ∈ lw_T := lw_in4 82 rfl rfl
theorem t4_83 : (Jvm.Cond.code ({ cls := "BuildDiskModel", name := "about", desc := "(I)I" } : Jvm.MethodName) prog_8_method_44_code (4 : Nat) (Option.some Jvm.ClassFile.FieldType.int)) ∈ lw_T := lw_in4 83 rfl rfl
theorem t4_84 : (Jvm.Cond.constantLong "BuildDiskLaw" (32 : Nat) (4294967295 : Int64)) ∈ lw_T := lw_in4 84 rfl rfl
theorem t4_9 : (Jvm.Cond.instanceMethod ({ cls := "BuildDiskModel", name := "sync", desc := "()I" } : Jvm.MethodName)) ∈ lw_T := lw_in4 9 rfl rfl
theorem iX0 : ∀ w ∈ u_ws RX0 TX0 5, w ∈ lw_T := by
  intro w hw
  obtain ⟨k, hk, rfl⟩ := List.mem_map.mp hw
  have hk : k < 5 := List.mem_range.mp hk
  match k, hk with
  | 0, _ => exact t1_44
  | 1, _ => exact t1_46
  | 2, _ => exact t1_48
  | 3, _ => exact t1_50
  | 4, _ => exact t1_52
  | k + 5, h => exact absurd h (by omega)
theorem iX3 : ∀ w ∈ u_ws RX3 TX3 10, w ∈ lw_T := by
  intro w hw
  obtain ⟨k, hk, rfl⟩ := List.mem_map.mp hw
  have hk : k < 10 := List.mem_range.mp hk
  match k, hk with
  | 0, _ => exact t1_73
  | 1, _ => exact t1_75
  | 2, _ => exact t1_77
  | 3, _ => exact t1_79
  | 4, _ => exact t1_81
  | 5, _ => exact t1_83
  | 6, _ => exact t1_85
  | 7, _ => exact t1_87
  | 8, _ => exact t1_89
  | 9, _ => exact t1_91
  | k + 10, h => exact absurd h (by omega)
theorem iX4 : ∀ w ∈ u_ws RX4 TX4 2, w ∈ lw_T := by
  intro w hw
  obtain ⟨k, hk, rfl⟩ := List.mem_map.mp hw
  have hk : k < 2 := List.mem_range.mp hk
  match k, hk with
  | 0, _ => exact t1_103
  | 1, _ => exact t1_105
  | k + 2, h => exact absurd h (by omega)
theorem iX5 : ∀ w ∈ u_ws RX5 TX5 14, w ∈ lw_T := by
  intro w hw
  obtain ⟨k, hk, rfl⟩ := List.mem_map.mp hw
  have hk : k < 14 := List.mem_range.mp hk
  match k, hk with
  | 0, _ => exact t1_123
  | 1, _ => exact t1_125
  | 2, _ => exact t1_127
  | 3, _ => exact t1_129
  | 4, _ => exact t1_131
  | 5, _ => exact t1_133
  | 6, _ => exact t1_135
  | 7, _ => exact t1_137
  | 8, _ => exact t1_139
  | 9, _ => exact t1_141
  | 10, _ => exact t1_143
  | 11, _ => exact t1_145
  | 12, _ => exact t1_147
  | 13, _ => exact t1_149
  | k + 14, h => exact absurd h (by omega)
theorem iX6 : ∀ w ∈ u_ws RX6 TX6 26, w ∈ lw_T := by
  intro w hw
  obtain ⟨k, hk, rfl⟩ := List.mem_map.mp hw
  have hk : k < 26 := List.mem_range.mp hk
  match k, hk with
  | 0, _ => exact t3_102
  | 1, _ => exact t3_104
  | 2, _ => exact t3_106
  | 3, _ => exact t3_108
  | 4, _ => exact t3_110
  | 5, _ => exact t3_112
  | 6, _ => exact t3_114
  | 7, _ => exact t3_116
  | 8, _ => exact t3_118
  | 9, _ => exact t3_120
  | 10, _ => exact t3_122
  | 11, _ => exact t3_124
  | 12, _ => exact t3_126
  | 13, _ => exact t3_128
  | 14, _ => exact t3_130
  | 15, _ => exact t3_132
  | 16, _ => exact t3_134
  | 17, _ => exact t3_136
  | 18, _ => exact t3_138
  | 19, _ => exact t3_140
  | 20, _ => exact t3_142
  | 21, _ => exact t3_144
  | 22, _ => exact t3_146
  | 23, _ => exact t3_148
  | 24, _ => exact t3_150
  | 25, _ => exact t3_152
  | k + 26, h => exact absurd h (by omega)
theorem ndJ9_floorMod_7cf53 : yJ9_floorMod_7cf53.cls ≠ "java/lang/invoke/MethodHandle" ∧ yJ9_floorMod_7cf53.cls ≠ "java/lang/invoke/VarHandle" ∧ (parseMethodDescriptor yJ9_floorMod_7cf53.desc).map (fun d => d.parameters.length) = some 2 := by decide +kernel
theorem ndL_cell : yL_cell.cls ≠ "java/lang/invoke/MethodHandle" ∧ yL_cell.cls ≠ "java/lang/invoke/VarHandle" ∧ (parseMethodDescriptor yL_cell.desc).map (fun d => d.parameters.length) = some 2 := by decide +kernel
theorem ndL_sector : yL_sector.cls ≠ "java/lang/invoke/MethodHandle" ∧ yL_sector.cls ≠ "java/lang/invoke/VarHandle" ∧ (parseMethodDescriptor yL_sector.desc).map (fun d => d.parameters.length) = some 4 := by decide +kernel
theorem ndX0_addTarget : yX0_addTarget.cls ≠ "java/lang/invoke/MethodHandle" ∧ yX0_addTarget.cls ≠ "java/lang/invoke/VarHandle" ∧ (parseMethodDescriptor yX0_addTarget.desc).map (fun d => d.parameters.length) = some 1 := by decide +kernel
theorem ndX0_bring : yX0_bring.cls ≠ "java/lang/invoke/MethodHandle" ∧ yX0_bring.cls ≠ "java/lang/invoke/VarHandle" ∧ (parseMethodDescriptor yX0_bring.desc).map (fun d => d.parameters.length) = some 2 := by decide +kernel
theorem ndX0_init : yX0_init.cls ≠ "java/lang/invoke/MethodHandle" ∧ yX0_init.cls ≠ "java/lang/invoke/VarHandle" ∧ (parseMethodDescriptor yX0_init.desc).map (fun d => d.parameters.length) = some 1 := by decide +kernel
theorem ndX0_latestWrite : yX0_latestWrite.cls ≠ "java/lang/invoke/MethodHandle" ∧ yX0_latestWrite.cls ≠ "java/lang/invoke/VarHandle" ∧ (parseMethodDescriptor yX0_latestWrite.desc).map (fun d => d.parameters.length) = some 1 := by decide +kernel
theorem ndX0_waitAsItWillBe : yX0_waitAsItWillBe.cls ≠ "java/lang/invoke/MethodHandle" ∧ yX0_waitAsItWillBe.cls ≠ "java/lang/invoke/VarHandle" ∧ (parseMethodDescriptor yX0_waitAsItWillBe.desc).map (fun d => d.parameters.length) = some 1 := by decide +kernel
theorem ndX0_waitWithZeros : yX0_waitWithZeros.cls ≠ "java/lang/invoke/MethodHandle" ∧ yX0_waitWithZeros.cls ≠ "java/lang/invoke/VarHandle" ∧ (parseMethodDescriptor yX0_waitWithZeros.desc).map (fun d => d.parameters.length) = some 1 := by decide +kernel
theorem ndX0_waiting : yX0_waiting.cls ≠ "java/lang/invoke/MethodHandle" ∧ yX0_waiting.cls ≠ "java/lang/invoke/VarHandle" ∧ (parseMethodDescriptor yX0_waiting.desc).map (fun d => d.parameters.length) = some 0 := by decide +kernel
theorem ndX1_areaAt : yX1_areaAt.cls ≠ "java/lang/invoke/MethodHandle" ∧ yX1_areaAt.cls ≠ "java/lang/invoke/VarHandle" ∧ (parseMethodDescriptor yX1_areaAt.desc).map (fun d => d.parameters.length) = some 2 := by decide +kernel
theorem ndX1_counting : yX1_counting.cls ≠ "java/lang/invoke/MethodHandle" ∧ yX1_counting.cls ≠ "java/lang/invoke/VarHandle" ∧ (parseMethodDescriptor yX1_counting.desc).map (fun d => d.parameters.length) = some 1 := by decide +kernel
theorem ndX1_editionAt : yX1_editionAt.cls ≠ "java/lang/invoke/MethodHandle" ∧ yX1_editionAt.cls ≠ "java/lang/invoke/VarHandle" ∧ (parseMethodDescriptor yX1_editionAt.desc).map (fun d => d.parameters.length) = some 2 := by decide +kernel
theorem ndX1_isGood : yX1_isGood.cls ≠ "java/lang/invoke/MethodHandle" ∧ yX1_isGood.cls ≠ "java/lang/invoke/VarHandle" ∧ (parseMethodDescriptor yX1_isGood.desc).map (fun d => d.parameters.length) = some 2 := by decide +kernel
theorem ndX1_sequenceAt : yX1_sequenceAt.cls ≠ "java/lang/invoke/MethodHandle" ∧ yX1_sequenceAt.cls ≠ "java/lang/invoke/VarHandle" ∧ (parseMethodDescriptor yX1_sequenceAt.desc).map (fun d => d.parameters.length) = some 2 := by decide +kernel
theorem ndX1_write : yX1_write.cls ≠ "java/lang/invoke/MethodHandle" ∧ yX1_write.cls ≠ "java/lang/invoke/VarHandle" ∧ (parseMethodDescriptor yX1_write.desc).map (fun d => d.parameters.length) = some 5 := by decide +kernel
theorem ndX2_hasSum : yX2_hasSum.cls ≠ "java/lang/invoke/MethodHandle" ∧ yX2_hasSum.cls ≠ "java/lang/invoke/VarHandle" ∧ (parseMethodDescriptor yX2_hasSum.desc).map (fun d => d.parameters.length) = some 4 := by decide +kernel
theorem ndX2_read : yX2_read.cls ≠ "java/lang/invoke/MethodHandle" ∧ yX2_read.cls ≠ "java/lang/invoke/VarHandle" ∧ (parseMethodDescriptor yX2_read.desc).map (fun d => d.parameters.length) = some 3 := by decide +kernel
theorem ndX2_sum : yX2_sum.cls ≠ "java/lang/invoke/MethodHandle" ∧ yX2_sum.cls ≠ "java/lang/invoke/VarHandle" ∧ (parseMethodDescriptor yX2_sum.desc).map (fun d => d.parameters.length) = some 4 := by decide +kernel
theorem ndX2_write : yX2_write.cls ≠ "java/lang/invoke/MethodHandle" ∧ yX2_write.cls ≠ "java/lang/invoke/VarHandle" ∧ (parseMethodDescriptor yX2_write.desc).map (fun d => d.parameters.length) = some 4 := by decide +kernel
theorem ndX2_writeSum : yX2_writeSum.cls ≠ "java/lang/invoke/MethodHandle" ∧ yX2_writeSum.cls ≠ "java/lang/invoke/VarHandle" ∧ (parseMethodDescriptor yX2_writeSum.desc).map (fun d => d.parameters.length) = some 4 := by decide +kernel
theorem ndX3_addAsk : yX3_addAsk.cls ≠ "java/lang/invoke/MethodHandle" ∧ yX3_addAsk.cls ≠ "java/lang/invoke/VarHandle" ∧ (parseMethodDescriptor yX3_addAsk.desc).map (fun d => d.parameters.length) = some 2 := by decide +kernel
theorem ndX3_append : yX3_append.cls ≠ "java/lang/invoke/MethodHandle" ∧ yX3_append.cls ≠ "java/lang/invoke/VarHandle" ∧ (parseMethodDescriptor yX3_append.desc).map (fun d => d.parameters.length) = some 3 := by decide +kernel
theorem ndX3_areKeys : yX3_areKeys.cls ≠ "java/lang/invoke/MethodHandle" ∧ yX3_areKeys.cls ≠ "java/lang/invoke/VarHandle" ∧ (parseMethodDescriptor yX3_areKeys.desc).map (fun d => d.parameters.length) = some 3 := by decide +kernel
theorem ndX3_askAt : yX3_askAt.cls ≠ "java/lang/invoke/MethodHandle" ∧ yX3_askAt.cls ≠ "java/lang/invoke/VarHandle" ∧ (parseMethodDescriptor yX3_askAt.desc).map (fun d => d.parameters.length) = some 2 := by decide +kernel
theorem ndX3_askCount : yX3_askCount.cls ≠ "java/lang/invoke/MethodHandle" ∧ yX3_askCount.cls ≠ "java/lang/invoke/VarHandle" ∧ (parseMethodDescriptor yX3_askCount.desc).map (fun d => d.parameters.length) = some 1 := by decide +kernel
theorem ndX3_clear : yX3_clear.cls ≠ "java/lang/invoke/MethodHandle" ∧ yX3_clear.cls ≠ "java/lang/invoke/VarHandle" ∧ (parseMethodDescriptor yX3_clear.desc).map (fun d => d.parameters.length) = some 0 := by decide +kernel
theorem ndX3_digestAt : yX3_digestAt.cls ≠ "java/lang/invoke/MethodHandle" ∧ yX3_digestAt.cls ≠ "java/lang/invoke/VarHandle" ∧ (parseMethodDescriptor yX3_digestAt.desc).map (fun d => d.parameters.length) = some 1 := by decide +kernel
theorem ndX3_end : yX3_end.cls ≠ "java/lang/invoke/MethodHandle" ∧ yX3_end.cls ≠ "java/lang/invoke/VarHandle" ∧ (parseMethodDescriptor yX3_end.desc).map (fun d => d.parameters.length) = some 0 := by decide +kernel
theorem ndX3_index : yX3_index.cls ≠ "java/lang/invoke/MethodHandle" ∧ yX3_index.cls ≠ "java/lang/invoke/VarHandle" ∧ (parseMethodDescriptor yX3_index.desc).map (fun d => d.parameters.length) = some 0 := by decide +kernel
theorem ndX3_indexPlace : yX3_indexPlace.cls ≠ "java/lang/invoke/MethodHandle" ∧ yX3_indexPlace.cls ≠ "java/lang/invoke/VarHandle" ∧ (parseMethodDescriptor yX3_indexPlace.desc).map (fun d => d.parameters.length) = some 1 := by decide +kernel
theorem ndX3_init : yX3_init.cls ≠ "java/lang/invoke/MethodHandle" ∧ yX3_init.cls ≠ "java/lang/invoke/VarHandle" ∧ (parseMethodDescriptor yX3_init.desc).map (fun d => d.parameters.length) = some 1 := by decide +kernel
theorem ndX3_isFull : yX3_isFull.cls ≠ "java/lang/invoke/MethodHandle" ∧ yX3_isFull.cls ≠ "java/lang/invoke/VarHandle" ∧ (parseMethodDescriptor yX3_isFull.desc).map (fun d => d.parameters.length) = some 0 := by decide +kernel
theorem ndX3_isKey : yX3_isKey.cls ≠ "java/lang/invoke/MethodHandle" ∧ yX3_isKey.cls ≠ "java/lang/invoke/VarHandle" ∧ (parseMethodDescriptor yX3_isKey.desc).map (fun d => d.parameters.length) = some 1 := by decide +kernel
theorem ndX3_isRow : yX3_isRow.cls ≠ "java/lang/invoke/MethodHandle" ∧ yX3_isRow.cls ≠ "java/lang/invoke/VarHandle" ∧ (parseMethodDescriptor yX3_isRow.desc).map (fun d => d.parameters.length) = some 3 := by decide +kernel
theorem ndX3_isToCopy : yX3_isToCopy.cls ≠ "java/lang/invoke/MethodHandle" ∧ yX3_isToCopy.cls ≠ "java/lang/invoke/VarHandle" ∧ (parseMethodDescriptor yX3_isToCopy.desc).map (fun d => d.parameters.length) = some 1 := by decide +kernel
theorem ndX3_isUser : yX3_isUser.cls ≠ "java/lang/invoke/MethodHandle" ∧ yX3_isUser.cls ≠ "java/lang/invoke/VarHandle" ∧ (parseMethodDescriptor yX3_isUser.desc).map (fun d => d.parameters.length) = some 1 := by decide +kernel
theorem ndX3_isWrongBehind : yX3_isWrongBehind.cls ≠ "java/lang/invoke/MethodHandle" ∧ yX3_isWrongBehind.cls ≠ "java/lang/invoke/VarHandle" ∧ (parseMethodDescriptor yX3_isWrongBehind.desc).map (fun d => d.parameters.length) = some 1 := by decide +kernel
theorem ndX3_keepOnly : yX3_keepOnly.cls ≠ "java/lang/invoke/MethodHandle" ∧ yX3_keepOnly.cls ≠ "java/lang/invoke/VarHandle" ∧ (parseMethodDescriptor yX3_keepOnly.desc).map (fun d => d.parameters.length) = some 2 := by decide +kernel
theorem ndX3_kindAt : yX3_kindAt.cls ≠ "java/lang/invoke/MethodHandle" ∧ yX3_kindAt.cls ≠ "java/lang/invoke/VarHandle" ∧ (parseMethodDescriptor yX3_kindAt.desc).map (fun d => d.parameters.length) = some 1 := by decide +kernel
theorem ndX3_latest : yX3_latest.cls ≠ "java/lang/invoke/MethodHandle" ∧ yX3_latest.cls ≠ "java/lang/invoke/VarHandle" ∧ (parseMethodDescriptor yX3_latest.desc).map (fun d => d.parameters.length) = some 1 := by decide +kernel
theorem ndX3_lockHolder : yX3_lockHolder.cls ≠ "java/lang/invoke/MethodHandle" ∧ yX3_lockHolder.cls ≠ "java/lang/invoke/VarHandle" ∧ (parseMethodDescriptor yX3_lockHolder.desc).map (fun d => d.parameters.length) = some 0 := by decide +kernel
theorem ndX3_move : yX3_move.cls ≠ "java/lang/invoke/MethodHandle" ∧ yX3_move.cls ≠ "java/lang/invoke/VarHandle" ∧ (parseMethodDescriptor yX3_move.desc).map (fun d => d.parameters.length) = some 2 := by decide +kernel
theorem ndX3_places : yX3_places.cls ≠ "java/lang/invoke/MethodHandle" ∧ yX3_places.cls ≠ "java/lang/invoke/VarHandle" ∧ (parseMethodDescriptor yX3_places.desc).map (fun d => d.parameters.length) = some 0 := by decide +kernel
theorem ndX3_read : yX3_read.cls ≠ "java/lang/invoke/MethodHandle" ∧ yX3_read.cls ≠ "java/lang/invoke/VarHandle" ∧ (parseMethodDescriptor yX3_read.desc).map (fun d => d.parameters.length) = some 2 := by decide +kernel
theorem ndX3_readRow : yX3_readRow.cls ≠ "java/lang/invoke/MethodHandle" ∧ yX3_readRow.cls ≠ "java/lang/invoke/VarHandle" ∧ (parseMethodDescriptor yX3_readRow.desc).map (fun d => d.parameters.length) = some 3 := by decide +kernel
theorem ndX3_write : yX3_write.cls ≠ "java/lang/invoke/MethodHandle" ∧ yX3_write.cls ≠ "java/lang/invoke/VarHandle" ∧ (parseMethodDescriptor yX3_write.desc).map (fun d => d.parameters.length) = some 4 := by decide +kernel
theorem ndX3_wrongCount : yX3_wrongCount.cls ≠ "java/lang/invoke/MethodHandle" ∧ yX3_wrongCount.cls ≠ "java/lang/invoke/VarHandle" ∧ (parseMethodDescriptor yX3_wrongCount.desc).map (fun d => d.parameters.length) = some 0 := by decide +kernel
theorem ndX4_count : yX4_count.cls ≠ "java/lang/invoke/MethodHandle" ∧ yX4_count.cls ≠ "java/lang/invoke/VarHandle" ∧ (parseMethodDescriptor yX4_count.desc).map (fun d => d.parameters.length) = some 0 := by decide +kernel
theorem ndX4_digestOf : yX4_digestOf.cls ≠ "java/lang/invoke/MethodHandle" ∧ yX4_digestOf.cls ≠ "java/lang/invoke/VarHandle" ∧ (parseMethodDescriptor yX4_digestOf.desc).map (fun d => d.parameters.length) = some 1 := by decide +kernel
theorem ndX4_forget : yX4_forget.cls ≠ "java/lang/invoke/MethodHandle" ∧ yX4_forget.cls ≠ "java/lang/invoke/VarHandle" ∧ (parseMethodDescriptor yX4_forget.desc).map (fun d => d.parameters.length) = some 1 := by decide +kernel
theorem ndX4_forgetAll : yX4_forgetAll.cls ≠ "java/lang/invoke/MethodHandle" ∧ yX4_forgetAll.cls ≠ "java/lang/invoke/VarHandle" ∧ (parseMethodDescriptor yX4_forgetAll.desc).map (fun d => d.parameters.length) = some 0 := by decide +kernel
theorem ndX4_has : yX4_has.cls ≠ "java/lang/invoke/MethodHandle" ∧ yX4_has.cls ≠ "java/lang/invoke/VarHandle" ∧ (parseMethodDescriptor yX4_has.desc).map (fun d => d.parameters.length) = some 1 := by decide +kernel
theorem ndX4_init : yX4_init.cls ≠ "java/lang/invoke/MethodHandle" ∧ yX4_init.cls ≠ "java/lang/invoke/VarHandle" ∧ (parseMethodDescriptor yX4_init.desc).map (fun d => d.parameters.length) = some 0 := by decide +kernel
theorem ndX4_put : yX4_put.cls ≠ "java/lang/invoke/MethodHandle" ∧ yX4_put.cls ≠ "java/lang/invoke/VarHandle" ∧ (parseMethodDescriptor yX4_put.desc).map (fun d => d.parameters.length) = some 2 := by decide +kernel
theorem ndX5_about : yX5_about.cls ≠ "java/lang/invoke/MethodHandle" ∧ yX5_about.cls ≠ "java/lang/invoke/VarHandle" ∧ (parseMethodDescriptor yX5_about.desc).map (fun d => d.parameters.length) = some 1 := by decide +kernel
theorem ndX5_aboutRunning : yX5_aboutRunning.cls ≠ "java/lang/invoke/MethodHandle" ∧ yX5_aboutRunning.cls ≠ "java/lang/invoke/VarHandle" ∧ (parseMethodDescriptor yX5_aboutRunning.desc).map (fun d => d.parameters.length) = some 1 := by decide +kernel
theorem ndX5_allAskedAhead : yX5_allAskedAhead.cls ≠ "java/lang/invoke/MethodHandle" ∧ yX5_allAskedAhead.cls ≠ "java/lang/invoke/VarHandle" ∧ (parseMethodDescriptor yX5_allAskedAhead.desc).map (fun d => d.parameters.length) = some 1 := by decide +kernel
theorem ndX5_asked : yX5_asked.cls ≠ "java/lang/invoke/MethodHandle" ∧ yX5_asked.cls ≠ "java/lang/invoke/VarHandle" ∧ (parseMethodDescriptor yX5_asked.desc).map (fun d => d.parameters.length) = some 2 := by decide +kernel
theorem ndX5_asks : yX5_asks.cls ≠ "java/lang/invoke/MethodHandle" ∧ yX5_asks.cls ≠ "java/lang/invoke/VarHandle" ∧ (parseMethodDescriptor yX5_asks.desc).map (fun d => d.parameters.length) = some 2 := by decide +kernel
theorem ndX5_beginBy : yX5_beginBy.cls ≠ "java/lang/invoke/MethodHandle" ∧ yX5_beginBy.cls ≠ "java/lang/invoke/VarHandle" ∧ (parseMethodDescriptor yX5_beginBy.desc).map (fun d => d.parameters.length) = some 1 := by decide +kernel
theorem ndX5_beginEmpty : yX5_beginEmpty.cls ≠ "java/lang/invoke/MethodHandle" ∧ yX5_beginEmpty.cls ≠ "java/lang/invoke/VarHandle" ∧ (parseMethodDescriptor yX5_beginEmpty.desc).map (fun d => d.parameters.length) = some 0 := by decide +kernel
theorem ndX5_changeHeads : yX5_changeHeads.cls ≠ "java/lang/invoke/MethodHandle" ∧ yX5_changeHeads.cls ≠ "java/lang/invoke/VarHandle" ∧ (parseMethodDescriptor yX5_changeHeads.desc).map (fun d => d.parameters.length) = some 0 := by decide +kernel
theorem ndX5_clearArea : yX5_clearArea.cls ≠ "java/lang/invoke/MethodHandle" ∧ yX5_clearArea.cls ≠ "java/lang/invoke/VarHandle" ∧ (parseMethodDescriptor yX5_clearArea.desc).map (fun d => d.parameters.length) = some 1 := by decide +kernel
theorem ndX5_compact : yX5_compact.cls ≠ "java/lang/invoke/MethodHandle" ∧ yX5_compact.cls ≠ "java/lang/invoke/VarHandle" ∧ (parseMethodDescriptor yX5_compact.desc).map (fun d => d.parameters.length) = some 1 := by decide +kernel
theorem ndX5_cut : yX5_cut.cls ≠ "java/lang/invoke/MethodHandle" ∧ yX5_cut.cls ≠ "java/lang/invoke/VarHandle" ∧ (parseMethodDescriptor yX5_cut.desc).map (fun d => d.parameters.length) = some 2 := by decide +kernel
theorem ndX5_dead : yX5_dead.cls ≠ "java/lang/invoke/MethodHandle" ∧ yX5_dead.cls ≠ "java/lang/invoke/VarHandle" ∧ (parseMethodDescriptor yX5_dead.desc).map (fun d => d.parameters.length) = some 1 := by decide +kernel
theorem ndX5_digest : yX5_digest.cls ≠ "java/lang/invoke/MethodHandle" ∧ yX5_digest.cls ≠ "java/lang/invoke/VarHandle" ∧ (parseMethodDescriptor yX5_digest.desc).map (fun d => d.parameters.length) = some 1 := by decide +kernel
theorem ndX5_doStep : yX5_doStep.cls ≠ "java/lang/invoke/MethodHandle" ∧ yX5_doStep.cls ≠ "java/lang/invoke/VarHandle" ∧ (parseMethodDescriptor yX5_doStep.desc).map (fun d => d.parameters.length) = some 0 := by decide +kernel
theorem ndX5_edition : yX5_edition.cls ≠ "java/lang/invoke/MethodHandle" ∧ yX5_edition.cls ≠ "java/lang/invoke/VarHandle" ∧ (parseMethodDescriptor yX5_edition.desc).map (fun d => d.parameters.length) = some 1 := by decide +kernel
theorem ndX5_endCompaction : yX5_endCompaction.cls ≠ "java/lang/invoke/MethodHandle" ∧ yX5_endCompaction.cls ≠ "java/lang/invoke/VarHandle" ∧ (parseMethodDescriptor yX5_endCompaction.desc).map (fun d => d.parameters.length) = some 0 := by decide +kernel
theorem ndX5_firstSector : yX5_firstSector.cls ≠ "java/lang/invoke/MethodHandle" ∧ yX5_firstSector.cls ≠ "java/lang/invoke/VarHandle" ∧ (parseMethodDescriptor yX5_firstSector.desc).map (fun d => d.parameters.length) = some 1 := by decide +kernel
theorem ndX5_fitsEdition : yX5_fitsEdition.cls ≠ "java/lang/invoke/MethodHandle" ∧ yX5_fitsEdition.cls ≠ "java/lang/invoke/VarHandle" ∧ (parseMethodDescriptor yX5_fitsEdition.desc).map (fun d => d.parameters.length) = some 1 := by decide +kernel
theorem ndX5_init : yX5_init.cls ≠ "java/lang/invoke/MethodHandle" ∧ yX5_init.cls ≠ "java/lang/invoke/VarHandle" ∧ (parseMethodDescriptor yX5_init.desc).map (fun d => d.parameters.length) = some 1 := by decide +kernel
theorem ndX5_keep : yX5_keep.cls ≠ "java/lang/invoke/MethodHandle" ∧ yX5_keep.cls ≠ "java/lang/invoke/VarHandle" ∧ (parseMethodDescriptor yX5_keep.desc).map (fun d => d.parameters.length) = some 3 := by decide +kernel
theorem ndX5_lock : yX5_lock.cls ≠ "java/lang/invoke/MethodHandle" ∧ yX5_lock.cls ≠ "java/lang/invoke/VarHandle" ∧ (parseMethodDescriptor yX5_lock.desc).map (fun d => d.parameters.length) = some 1 := by decide +kernel
theorem ndX5_poke : yX5_poke.cls ≠ "java/lang/invoke/MethodHandle" ∧ yX5_poke.cls ≠ "java/lang/invoke/VarHandle" ∧ (parseMethodDescriptor yX5_poke.desc).map (fun d => d.parameters.length) = some 2 := by decide +kernel
theorem ndX5_row : yX5_row.cls ≠ "java/lang/invoke/MethodHandle" ∧ yX5_row.cls ≠ "java/lang/invoke/VarHandle" ∧ (parseMethodDescriptor yX5_row.desc).map (fun d => d.parameters.length) = some 2 := by decide +kernel
theorem ndX5_sector : yX5_sector.cls ≠ "java/lang/invoke/MethodHandle" ∧ yX5_sector.cls ≠ "java/lang/invoke/VarHandle" ∧ (parseMethodDescriptor yX5_sector.desc).map (fun d => d.parameters.length) = some 2 := by decide +kernel
theorem ndX5_start : yX5_start.cls ≠ "java/lang/invoke/MethodHandle" ∧ yX5_start.cls ≠ "java/lang/invoke/VarHandle" ∧ (parseMethodDescriptor yX5_start.desc).map (fun d => d.parameters.length) = some 0 := by decide +kernel
theorem ndX5_sure : yX5_sure.cls ≠ "java/lang/invoke/MethodHandle" ∧ yX5_sure.cls ≠ "java/lang/invoke/VarHandle" ∧ (parseMethodDescriptor yX5_sure.desc).map (fun d => d.parameters.length) = some 1 := by decide +kernel
theorem ndX5_sync : yX5_sync.cls ≠ "java/lang/invoke/MethodHandle" ∧ yX5_sync.cls ≠ "java/lang/invoke/VarHandle" ∧ (parseMethodDescriptor yX5_sync.desc).map (fun d => d.parameters.length) = some 0 := by decide +kernel
theorem ndX5_takePlace : yX5_takePlace.cls ≠ "java/lang/invoke/MethodHandle" ∧ yX5_takePlace.cls ≠ "java/lang/invoke/VarHandle" ∧ (parseMethodDescriptor yX5_takePlace.desc).map (fun d => d.parameters.length) = some 1 := by decide +kernel
theorem ndX5_writeRow : yX5_writeRow.cls ≠ "java/lang/invoke/MethodHandle" ∧ yX5_writeRow.cls ≠ "java/lang/invoke/VarHandle" ∧ (parseMethodDescriptor yX5_writeRow.desc).map (fun d => d.parameters.length) = some 3 := by decide +kernel
theorem ndX5_wrong : yX5_wrong.cls ≠ "java/lang/invoke/MethodHandle" ∧ yX5_wrong.cls ≠ "java/lang/invoke/VarHandle" ∧ (parseMethodDescriptor yX5_wrong.desc).map (fun d => d.parameters.length) = some 0 := by decide +kernel
theorem ndX6_about : yX6_about.cls ≠ "java/lang/invoke/MethodHandle" ∧ yX6_about.cls ≠ "java/lang/invoke/VarHandle" ∧ (parseMethodDescriptor yX6_about.desc).map (fun d => d.parameters.length) = some 1 := by decide +kernel
theorem ndX6_asked : yX6_asked.cls ≠ "java/lang/invoke/MethodHandle" ∧ yX6_asked.cls ≠ "java/lang/invoke/VarHandle" ∧ (parseMethodDescriptor yX6_asked.desc).map (fun d => d.parameters.length) = some 2 := by decide +kernel
theorem ndX6_asks : yX6_asks.cls ≠ "java/lang/invoke/MethodHandle" ∧ yX6_asks.cls ≠ "java/lang/invoke/VarHandle" ∧ (parseMethodDescriptor yX6_asks.desc).map (fun d => d.parameters.length) = some 2 := by decide +kernel
theorem ndX6_bring : yX6_bring.cls ≠ "java/lang/invoke/MethodHandle" ∧ yX6_bring.cls ≠ "java/lang/invoke/VarHandle" ∧ (parseMethodDescriptor yX6_bring.desc).map (fun d => d.parameters.length) = some 2 := by decide +kernel
theorem ndX6_bringAll : yX6_bringAll.cls ≠ "java/lang/invoke/MethodHandle" ∧ yX6_bringAll.cls ≠ "java/lang/invoke/VarHandle" ∧ (parseMethodDescriptor yX6_bringAll.desc).map (fun d => d.parameters.length) = some 0 := by decide +kernel
theorem ndX6_changeHeads : yX6_changeHeads.cls ≠ "java/lang/invoke/MethodHandle" ∧ yX6_changeHeads.cls ≠ "java/lang/invoke/VarHandle" ∧ (parseMethodDescriptor yX6_changeHeads.desc).map (fun d => d.parameters.length) = some 0 := by decide +kernel
theorem ndX6_clear : yX6_clear.cls ≠ "java/lang/invoke/MethodHandle" ∧ yX6_clear.cls ≠ "java/lang/invoke/VarHandle" ∧ (parseMethodDescriptor yX6_clear.desc).map (fun d => d.parameters.length) = some 0 := by decide +kernel
theorem ndX6_compact : yX6_compact.cls ≠ "java/lang/invoke/MethodHandle" ∧ yX6_compact.cls ≠ "java/lang/invoke/VarHandle" ∧ (parseMethodDescriptor yX6_compact.desc).map (fun d => d.parameters.length) = some 1 := by decide +kernel
theorem ndX6_copyRow : yX6_copyRow.cls ≠ "java/lang/invoke/MethodHandle" ∧ yX6_copyRow.cls ≠ "java/lang/invoke/VarHandle" ∧ (parseMethodDescriptor yX6_copyRow.desc).map (fun d => d.parameters.length) = some 2 := by decide +kernel
theorem ndX6_cut : yX6_cut.cls ≠ "java/lang/invoke/MethodHandle" ∧ yX6_cut.cls ≠ "java/lang/invoke/VarHandle" ∧ (parseMethodDescriptor yX6_cut.desc).map (fun d => d.parameters.length) = some 2 := by decide +kernel
theorem ndX6_dead : yX6_dead.cls ≠ "java/lang/invoke/MethodHandle" ∧ yX6_dead.cls ≠ "java/lang/invoke/VarHandle" ∧ (parseMethodDescriptor yX6_dead.desc).map (fun d => d.parameters.length) = some 1 := by decide +kernel
theorem ndX6_digest : yX6_digest.cls ≠ "java/lang/invoke/MethodHandle" ∧ yX6_digest.cls ≠ "java/lang/invoke/VarHandle" ∧ (parseMethodDescriptor yX6_digest.desc).map (fun d => d.parameters.length) = some 1 := by decide +kernel
theorem ndX6_edition : yX6_edition.cls ≠ "java/lang/invoke/MethodHandle" ∧ yX6_edition.cls ≠ "java/lang/invoke/VarHandle" ∧ (parseMethodDescriptor yX6_edition.desc).map (fun d => d.parameters.length) = some 1 := by decide +kernel
theorem ndX6_head : yX6_head.cls ≠ "java/lang/invoke/MethodHandle" ∧ yX6_head.cls ≠ "java/lang/invoke/VarHandle" ∧ (parseMethodDescriptor yX6_head.desc).map (fun d => d.parameters.length) = some 0 := by decide +kernel
theorem ndX6_holder : yX6_holder.cls ≠ "java/lang/invoke/MethodHandle" ∧ yX6_holder.cls ≠ "java/lang/invoke/VarHandle" ∧ (parseMethodDescriptor yX6_holder.desc).map (fun d => d.parameters.length) = some 0 := by decide +kernel
theorem ndX6_init : yX6_init.cls ≠ "java/lang/invoke/MethodHandle" ∧ yX6_init.cls ≠ "java/lang/invoke/VarHandle" ∧ (parseMethodDescriptor yX6_init.desc).map (fun d => d.parameters.length) = some 1 := by decide +kernel
theorem ndX6_isHead : yX6_isHead.cls ≠ "java/lang/invoke/MethodHandle" ∧ yX6_isHead.cls ≠ "java/lang/invoke/VarHandle" ∧ (parseMethodDescriptor yX6_isHead.desc).map (fun d => d.parameters.length) = some 1 := by decide +kernel
theorem ndX6_isKey : yX6_isKey.cls ≠ "java/lang/invoke/MethodHandle" ∧ yX6_isKey.cls ≠ "java/lang/invoke/VarHandle" ∧ (parseMethodDescriptor yX6_isKey.desc).map (fun d => d.parameters.length) = some 1 := by decide +kernel
theorem ndX6_isRow : yX6_isRow.cls ≠ "java/lang/invoke/MethodHandle" ∧ yX6_isRow.cls ≠ "java/lang/invoke/VarHandle" ∧ (parseMethodDescriptor yX6_isRow.desc).map (fun d => d.parameters.length) = some 1 := by decide +kernel
theorem ndX6_isUser : yX6_isUser.cls ≠ "java/lang/invoke/MethodHandle" ∧ yX6_isUser.cls ≠ "java/lang/invoke/VarHandle" ∧ (parseMethodDescriptor yX6_isUser.desc).map (fun d => d.parameters.length) = some 1 := by decide +kernel
theorem ndX6_isWrongBehind : yX6_isWrongBehind.cls ≠ "java/lang/invoke/MethodHandle" ∧ yX6_isWrongBehind.cls ≠ "java/lang/invoke/VarHandle" ∧ (parseMethodDescriptor yX6_isWrongBehind.desc).map (fun d => d.parameters.length) = some 1 := by decide +kernel
theorem ndX6_keep : yX6_keep.cls ≠ "java/lang/invoke/MethodHandle" ∧ yX6_keep.cls ≠ "java/lang/invoke/VarHandle" ∧ (parseMethodDescriptor yX6_keep.desc).map (fun d => d.parameters.length) = some 3 := by decide +kernel
theorem ndX6_latest : yX6_latest.cls ≠ "java/lang/invoke/MethodHandle" ∧ yX6_latest.cls ≠ "java/lang/invoke/VarHandle" ∧ (parseMethodDescriptor yX6_latest.desc).map (fun d => d.parameters.length) = some 1 := by decide +kernel
theorem ndX6_load : yX6_load.cls ≠ "java/lang/invoke/MethodHandle" ∧ yX6_load.cls ≠ "java/lang/invoke/VarHandle" ∧ (parseMethodDescriptor yX6_load.desc).map (fun d => d.parameters.length) = some 1 := by decide +kernel
theorem ndX6_lock : yX6_lock.cls ≠ "java/lang/invoke/MethodHandle" ∧ yX6_lock.cls ≠ "java/lang/invoke/VarHandle" ∧ (parseMethodDescriptor yX6_lock.desc).map (fun d => d.parameters.length) = some 1 := by decide +kernel
theorem ndX6_lockRow : yX6_lockRow.cls ≠ "java/lang/invoke/MethodHandle" ∧ yX6_lockRow.cls ≠ "java/lang/invoke/VarHandle" ∧ (parseMethodDescriptor yX6_lockRow.desc).map (fun d => d.parameters.length) = some 0 := by decide +kernel
theorem ndX6_number : yX6_number.cls ≠ "java/lang/invoke/MethodHandle" ∧ yX6_number.cls ≠ "java/lang/invoke/VarHandle" ∧ (parseMethodDescriptor yX6_number.desc).map (fun d => d.parameters.length) = some 2 := by decide +kernel
theorem ndX6_poke : yX6_poke.cls ≠ "java/lang/invoke/MethodHandle" ∧ yX6_poke.cls ≠ "java/lang/invoke/VarHandle" ∧ (parseMethodDescriptor yX6_poke.desc).map (fun d => d.parameters.length) = some 2 := by decide +kernel
theorem ndX6_put : yX6_put.cls ≠ "java/lang/invoke/MethodHandle" ∧ yX6_put.cls ≠ "java/lang/invoke/VarHandle" ∧ (parseMethodDescriptor yX6_put.desc).map (fun d => d.parameters.length) = some 3 := by decide +kernel
theorem ndX6_read : yX6_read.cls ≠ "java/lang/invoke/MethodHandle" ∧ yX6_read.cls ≠ "java/lang/invoke/VarHandle" ∧ (parseMethodDescriptor yX6_read.desc).map (fun d => d.parameters.length) = some 1 := by decide +kernel
theorem ndX6_row : yX6_row.cls ≠ "java/lang/invoke/MethodHandle" ∧ yX6_row.cls ≠ "java/lang/invoke/VarHandle" ∧ (parseMethodDescriptor yX6_row.desc).map (fun d => d.parameters.length) = some 2 := by decide +kernel
theorem ndX6_sector : yX6_sector.cls ≠ "java/lang/invoke/MethodHandle" ∧ yX6_sector.cls ≠ "java/lang/invoke/VarHandle" ∧ (parseMethodDescriptor yX6_sector.desc).map (fun d => d.parameters.length) = some 2 := by decide +kernel
theorem ndX6_sectorOf : yX6_sectorOf.cls ≠ "java/lang/invoke/MethodHandle" ∧ yX6_sectorOf.cls ≠ "java/lang/invoke/VarHandle" ∧ (parseMethodDescriptor yX6_sectorOf.desc).map (fun d => d.parameters.length) = some 2 := by decide +kernel
theorem ndX6_send : yX6_send.cls ≠ "java/lang/invoke/MethodHandle" ∧ yX6_send.cls ≠ "java/lang/invoke/VarHandle" ∧ (parseMethodDescriptor yX6_send.desc).map (fun d => d.parameters.length) = some 1 := by decide +kernel
theorem ndX6_start : yX6_start.cls ≠ "java/lang/invoke/MethodHandle" ∧ yX6_start.cls ≠ "java/lang/invoke/VarHandle" ∧ (parseMethodDescriptor yX6_start.desc).map (fun d => d.parameters.length) = some 0 := by decide +kernel
theorem ndX6_step : yX6_step.cls ≠ "java/lang/invoke/MethodHandle" ∧ yX6_step.cls ≠ "java/lang/invoke/VarHandle" ∧ (parseMethodDescriptor yX6_step.desc).map (fun d => d.parameters.length) = some 0 := by decide +kernel
theorem ndX6_sum : yX6_sum.cls ≠ "java/lang/invoke/MethodHandle" ∧ yX6_sum.cls ≠ "java/lang/invoke/VarHandle" ∧ (parseMethodDescriptor yX6_sum.desc).map (fun d => d.parameters.length) = some 3 := by decide +kernel
theorem ndX6_sure : yX6_sure.cls ≠ "java/lang/invoke/MethodHandle" ∧ yX6_sure.cls ≠ "java/lang/invoke/VarHandle" ∧ (parseMethodDescriptor yX6_sure.desc).map (fun d => d.parameters.length) = some 1 := by decide +kernel
theorem ndX6_sync : yX6_sync.cls ≠ "java/lang/invoke/MethodHandle" ∧ yX6_sync.cls ≠ "java/lang/invoke/VarHandle" ∧ (parseMethodDescriptor yX6_sync.desc).map (fun d => d.parameters.length) = some 0 := by decide +kernel
theorem ndX6_turned : yX6_turned.cls ≠ "java/lang/invoke/MethodHandle" ∧ yX6_turned.cls ≠ "java/lang/invoke/VarHandle" ∧ (parseMethodDescriptor yX6_turned.desc).map (fun d => d.parameters.length) = some 2 := by decide +kernel
theorem ndX6_write : yX6_write.cls ≠ "java/lang/invoke/MethodHandle" ∧ yX6_write.cls ≠ "java/lang/invoke/VarHandle" ∧ (parseMethodDescriptor yX6_write.desc).map (fun d => d.parameters.length) = some 3 := by decide +kernel
theorem ndX6_wrong : yX6_wrong.cls ≠ "java/lang/invoke/MethodHandle" ∧ yX6_wrong.cls ≠ "java/lang/invoke/VarHandle" ∧ (parseMethodDescriptor yX6_wrong.desc).map (fun d => d.parameters.length) = some 0 := by decide +kernel
theorem ndX6_zeros : yX6_zeros.cls ≠ "java/lang/invoke/MethodHandle" ∧ yX6_zeros.cls ≠ "java/lang/invoke/VarHandle" ∧ (parseMethodDescriptor yX6_zeros.desc).map (fun d => d.parameters.length) = some 1 := by decide +kernel
