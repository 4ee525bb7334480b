theorem ts_12 : Cond.selects RX0 yX0_latestWrite yX0_latestWrite ∈ lw_T := lw_inS 12 rfl rfl
theorem ts_16 : Cond.selects RX3 yX3_move yX3_move ∈ lw_T := lw_inS 16 rfl rfl
theorem ts_2 : Cond.selects RX3 yX3_index yX3_index ∈ lw_T := lw_inS 2 rfl rfl
theorem ts_3 : Cond.selects RX3 yX3_indexPlace yX3_indexPlace ∈ lw_T := lw_inS 3 rfl rfl
theorem ts_5 : Cond.selects RX5 yX5_firstSector yX5_firstSector ∈ lw_T := lw_inS 5 rfl rfl
theorem ts_6 : Cond.selects RX0 yX0_addTarget yX0_addTarget ∈ lw_T := lw_inS 6 rfl rfl
theorem ts_8 : Cond.selects RX3 yX3_readRow yX3_readRow ∈ lw_T := lw_inS 8 rfl rfl
theorem t1_1 : (Jvm.Cond.initialized "BuildDisk") ∈ lw_T := lw_in1 1 rfl rfl
theorem t1_101 : (Jvm.Cond.fieldLink "BuildDisk$Unkept" (9 : Nat) "BuildDisk$Unkept" "marks" "[Z") ∈ lw_T := lw_in1 101 rfl rfl
theorem t1_102 : (Jvm.Cond.fieldLink "BuildDisk$Unkept" (15 : Nat) "BuildDisk$Unkept" "digests" "[J") ∈ lw_T := lw_in1 102 rfl rfl
theorem t1_103 : (Jvm.Cond.laysFinal "BuildDisk$Unkept" "BuildDisk$Unkept" "marks" "[Z") ∈ lw_T := lw_in1 103 rfl rfl
theorem t1_105 : (Jvm.Cond.laysFinal "BuildDisk$Unkept" "BuildDisk$Unkept" "digests" "[J") ∈ lw_T := lw_in1 105 rfl rfl
theorem t1_109 : (Jvm.Cond.fieldLink "BuildDisk" (27 : Nat) "BuildDisk" "disk" "LBuildDisk$Disk;") ∈ lw_T := lw_in1 109 rfl rfl
theorem t1_112 : (Jvm.Cond.fieldLink "BuildDisk" (18 : Nat) "BuildDisk" "areaSectors" "I") ∈ lw_T := lw_in1 112 rfl rfl
theorem t1_114 : (Jvm.Cond.fieldLink "BuildDisk" (128 : Nat) "BuildDisk" "area" "I") ∈ lw_T := lw_in1 114 rfl rfl
theorem t1_115 : (Jvm.Cond.fieldLink "BuildDisk" (195 : Nat) "BuildDisk" "sequence" "I") ∈ lw_T := lw_in1 115 rfl rfl
theorem t1_116 : (Jvm.Cond.fieldLink "BuildDisk" (83 : Nat) "BuildDisk" "goingEdition" "I") ∈ lw_T := lw_in1 116 rfl rfl
theorem t1_123 : (Jvm.Cond.laysFinal "BuildDisk" "BuildDisk" "disk" "LBuildDisk$Disk;") ∈ lw_T := lw_in1 123 rfl rfl
theorem t1_125 : (Jvm.Cond.laysFinal "BuildDisk" "BuildDisk" "table" "LBuildDisk$Table;") ∈ lw_T := lw_in1 125 rfl rfl
theorem t1_127 : (Jvm.Cond.laysFinal "BuildDisk" "BuildDisk" "unkept" "LBuildDisk$Unkept;") ∈ lw_T := lw_in1 127 rfl rfl
theorem t1_129 : (Jvm.Cond.laysFinal "BuildDisk" "BuildDisk" "areaSectors" "I") ∈ lw_T := lw_in1 129 rfl rfl
theorem t1_131 : (Jvm.Cond.lays "BuildDisk" "BuildDisk" "running" "Z") ∈ lw_T := lw_in1 131 rfl rfl
theorem t1_133 : (Jvm.Cond.lays "BuildDisk" "BuildDisk" "area" "I") ∈ lw_T := lw_in1 133 rfl rfl
theorem t1_135 : (Jvm.Cond.lays "BuildDisk" "BuildDisk" "sequence" "I") ∈ lw_T := lw_in1 135 rfl rfl
theorem t1_137 : (Jvm.Cond.lays "BuildDisk" "BuildDisk" "goingEdition" "I") ∈ lw_T := lw_in1 137 rfl rfl
theorem t1_139 : (Jvm.Cond.lays "BuildDisk" "BuildDisk" "nextEdition" "I") ∈ lw_T := lw_in1 139 rfl rfl
theorem t1_141 : (Jvm.Cond.lays "BuildDisk" "BuildDisk" "wrongAtStart" "I") ∈ lw_T := lw_in1 141 rfl rfl
theorem t1_143 : (Jvm.Cond.lays "BuildDisk" "BuildDisk" "fixedEnd" "I") ∈ lw_T := lw_in1 143 rfl rfl
theorem t1_145 : (Jvm.Cond.lays "BuildDisk" "BuildDisk" "taken" "I") ∈ lw_T := lw_in1 145 rfl rfl
theorem t1_147 : (Jvm.Cond.lays "BuildDisk" "BuildDisk" "copied" "I") ∈ lw_T := lw_in1 147 rfl rfl
theorem t1_149 : (Jvm.Cond.laysFinal "BuildDisk" "BuildDisk" "copiedFrom" "[I") ∈ lw_T := lw_in1 149 rfl rfl
theorem t1_159 : (Jvm.Cond.methodLink "BuildDisk$Head" (9 : Nat) ({ cls := "BuildDisk$Head", name := "isGood", desc := "([BI)Z" } : Jvm.MethodName)) ∈ lw_T := lw_in1 159 rfl rfl
theorem t1_160 : (Jvm.Cond.static ({ cls := "BuildDisk$Head", name := "isGood", desc := "([BI)Z" } : Jvm.MethodName)) ∈ lw_T := lw_in1 160 rfl rfl
theorem t1_161 : (Jvm.Cond.code ({ cls := "BuildDisk$Head", name := "isGood", desc := "([BI)Z" } : Jvm.MethodName) prog_3_method_3_code (5 : Nat) (Option.some Jvm.ClassFile.FieldType.boolean)) ∈ lw_T := lw_in1 161 rfl rfl
theorem t1_162 : (Jvm.Cond.methodLink "BuildDisk$Head" (19 : Nat) ({ cls := "BuildDisk$Numbers", name := "read", desc := "([BII)J" } : Jvm.MethodName)) ∈ lw_T := lw_in1 162 rfl rfl
theorem t1_163 : (Jvm.Cond.static ({ cls := "BuildDisk$Numbers", name := "read", desc := "([BII)J" } : Jvm.MethodName)) ∈ lw_T := lw_in1 163 rfl rfl
theorem t1_164 : (Jvm.Cond.code ({ cls := "BuildDisk$Numbers", name := "read", desc := "([BII)J" } : Jvm.MethodName) prog_4_method_2_code (6 : Nat) (Option.some Jvm.ClassFile.FieldType.long)) ∈ lw_T := lw_in1 164 rfl rfl
theorem t1_165 : (Jvm.Cond.constantLong "BuildDisk$Head" (25 : Nat) (2000000000 : Int64)) ∈ lw_T := lw_in1 165 rfl rfl
theorem t1_166 : (Jvm.Cond.constantLong "BuildDisk$Head" (27 : Nat) (2 : Int64)) ∈ lw_T := lw_in1 166 rfl rfl
theorem t1_167 : (Jvm.Cond.methodLink "BuildDisk$Head" (29 : Nat) ({ cls := "BuildDisk$Head", name := "areaAt", desc := "([BI)I" } : Jvm.MethodName)) ∈ lw_T := lw_in1 167 rfl rfl
theorem t1_168 : (Jvm.Cond.static ({ cls := "BuildDisk$Head", name := "areaAt", desc := "([BI)I" } : Jvm.MethodName)) ∈ lw_T := lw_in1 168 rfl rfl
theorem t1_169 : (Jvm.Cond.code ({ cls := "BuildDisk$Head", name := "areaAt", desc := "([BI)I" } : Jvm.MethodName) prog_3_method_6_code (2 : Nat) (Option.some Jvm.ClassFile.FieldType.int)) ∈ lw_T := lw_in1 169 rfl rfl
theorem t1_170 : (Jvm.Cond.methodLink "BuildDisk$Head" (32 : Nat) ({ cls := "BuildDisk$Numbers", name := "hasSum", desc := "([BIII)Z" } : Jvm.MethodName)) ∈ lw_T := lw_in1 170 rfl rfl
theorem t1_171 : (Jvm.Cond.static ({ cls := "BuildDisk$Numbers", name := "hasSum", desc := "([BIII)Z" } : Jvm.MethodName)) ∈ lw_T := lw_in1 171 rfl rfl
theorem t1_172 : (Jvm.Cond.code ({ cls := "BuildDisk$Numbers", name := "hasSum", desc := "([BIII)Z" } : Jvm.MethodName) prog_4_method_5_code (4 : Nat) (Option.some Jvm.ClassFile.FieldType.boolean)) ∈ lw_T := lw_in1 172 rfl rfl
theorem t1_173 : (Jvm.Cond.methodLink "BuildDisk$Numbers" (10 : Nat) ({ cls := "BuildDisk$Numbers", name := "read", desc := "([BII)J" } : Jvm.MethodName)) ∈ lw_T := lw_in1 173 rfl rfl
theorem t1_174 : (Jvm.Cond.methodLink "BuildDisk$Numbers" (14 : Nat) ({ cls := "BuildDisk$Numbers", name := "sum", desc := "([BIII)I" } : Jvm.MethodName)) ∈ lw_T := lw_in1 174 rfl rfl
theorem t1_175 : (Jvm.Cond.static ({ cls := "BuildDisk$Numbers", name := "sum", desc := "([BIII)I" } : Jvm.MethodName)) ∈ lw_T := lw_in1 175 rfl rfl
theorem t1_176 : (Jvm.Cond.code ({ cls := "BuildDisk$Numbers", name := "sum", desc := "([BIII)I" } : Jvm.MethodName) prog_4_method_4_code (7 : Nat) (Option.some Jvm.ClassFile.FieldType.int)) ∈ lw_T := lw_in1 176 rfl rfl
theorem t1_177 : (Jvm.Cond.constant "BuildDisk$Numbers" (9 : Nat) (-2048144777 : Int32)) ∈ lw_T := lw_in1 177 rfl rfl
theorem t1_178 : (Jvm.Cond.methodLink "BuildDisk$Head" (15 : Nat) ({ cls := "BuildDisk$Head", name := "sequenceAt", desc := "([BI)I" } : Jvm.MethodName)) ∈ lw_T := lw_in1 178 rfl rfl
theorem t1_179 : (Jvm.Cond.static ({ cls := "BuildDisk$Head", name := "sequenceAt", desc := "([BI)I" } : Jvm.MethodName)) ∈ lw_T := lw_in1 179 rfl rfl
theorem t1_180 : (Jvm.Cond.code ({ cls := "BuildDisk$Head", name := "sequenceAt", desc := "([BI)I" } : Jvm.MethodName) prog_3_method_5_code (2 : Nat) (Option.some Jvm.ClassFile.FieldType.int)) ∈ lw_T := lw_in1 180 rfl rfl
theorem t1_196 : (Jvm.Cond.methodLink "BuildDisk$Table" (48 : Nat) ({ cls := "BuildDisk$Table", name := "index", desc := "()V" } : Jvm.MethodName)) ∈ lw_T := lw_in1 196 rfl rfl
theorem t1_198 : (Jvm.Cond.instanceMethod ({ cls := "BuildDisk$Table", name := "index", desc := "()V" } : Jvm.MethodName)) ∈ lw_T := lw_in1 198 rfl rfl
theorem t1_199 : (Jvm.Cond.code ({ cls := "BuildDisk$Table", name := "index", desc := "()V" } : Jvm.MethodName) prog_5_method_26_code (2 : Nat) (Option.none : Option Jvm.ClassFile.FieldType)) ∈ lw_T := lw_in1 199 rfl rfl
theorem t1_2 : (Jvm.Cond.initialized "java/lang/Math") ∈ lw_T := lw_in1 2 rfl rfl
theorem t1_200 : (Jvm.Cond.methodLink "BuildDisk$Table" (59 : Nat) ({ cls := "BuildDisk$Table", name := "indexPlace", desc := "(I)V" } : Jvm.MethodName)) ∈ lw_T := lw_in1 200 rfl rfl
theorem t1_202 : (Jvm.Cond.instanceMethod ({ cls := "BuildDisk$Table", name := "indexPlace", desc := "(I)V" } : Jvm.MethodName)) ∈ lw_T := lw_in1 202 rfl rfl
theorem t1_203 : (Jvm.Cond.code ({ cls := "BuildDisk$Table", name := "indexPlace", desc := "(I)V" } : Jvm.MethodName) prog_5_method_27_code (2 : Nat) (Option.none : Option Jvm.ClassFile.FieldType)) ∈ lw_T := lw_in1 203 rfl rfl
theorem t1_208 : (Jvm.Cond.methodLink "BuildDisk" (211 : Nat) ({ cls := "BuildDisk", name := "firstSector", desc := "(I)I" } : Jvm.MethodName)) ∈ lw_T := lw_in1 208 rfl rfl
theorem t1_210 : (Jvm.Cond.instanceMethod ({ cls := "BuildDisk", name := "firstSector", desc := "(I)I" } : Jvm.MethodName)) ∈ lw_T := lw_in1 210 rfl rfl
theorem t1_211 : (Jvm.Cond.code ({ cls := "BuildDisk", name := "firstSector", desc := "(I)I" } : Jvm.MethodName) prog_1_method_22_code (2 : Nat) (Option.some Jvm.ClassFile.FieldType.int)) ∈ lw_T := lw_in1 211 rfl rfl
theorem t1_212 : (Jvm.Cond.methodLink "BuildDisk" (218 : Nat) ({ cls := "BuildDisk$Disk", name := "waitWithZeros", desc := "(I)I" } : Jvm.MethodName)) ∈ lw_T := lw_in1 212 rfl rfl
theorem t1_213 : (Jvm.Cond.instanceMethod ({ cls := "BuildDisk$Disk", name := "waitWithZeros", desc := "(I)I" } : Jvm.MethodName)) ∈ lw_T := lw_in1 213 rfl rfl
theorem t1_214 : (Jvm.Cond.selects "BuildDisk$Disk" ({ cls := "BuildDisk$Disk", name := "waitWithZeros", desc := "(I)I" } : Jvm.MethodName) ({ cls := "BuildDisk$Disk", name := "waitWithZeros", desc := "(I)I" } : Jvm.MethodName)) ∈ lw_T := lw_in1 214 rfl rfl
theorem t1_215 : (Jvm.Cond.code ({ cls := "BuildDisk$Disk", name := "waitWithZeros", desc := "(I)I" } : Jvm.MethodName) prog_2_method_3_code (4 : Nat) (Option.some Jvm.ClassFile.FieldType.int)) ∈ lw_T := lw_in1 215 rfl rfl
theorem t1_216 : (Jvm.Cond.methodLink "BuildDisk$Disk" (30 : Nat) ({ cls := "BuildDisk$Disk", name := "bring", desc := "(II)I" } : Jvm.MethodName)) ∈ lw_T := lw_in1 216 rfl rfl
theorem t1_217 : (Jvm.Cond.instanceMethod ({ cls := "BuildDisk$Disk", name := "bring", desc := "(II)I" } : Jvm.MethodName)) ∈ lw_T := lw_in1 217 rfl rfl
theorem t1_218 : (Jvm.Cond.selects "BuildDisk$Disk" ({ cls := "BuildDisk$Disk", name := "bring", desc := "(II)I" } : Jvm.MethodName) ({ cls := "BuildDisk$Disk", name := "bring", desc := "(II)I" } : Jvm.MethodName)) ∈ lw_T := lw_in1 218 rfl rfl
theorem t1_219 : (Jvm.Cond.code ({ cls := "BuildDisk$Disk", name := "bring", desc := "(II)I" } : Jvm.MethodName) prog_2_method_5_code (6 : Nat) (Option.some Jvm.ClassFile.FieldType.int)) ∈ lw_T := lw_in1 219 rfl rfl
theorem t1_220 : (Jvm.Cond.methodLink "BuildDisk$Disk" (47 : Nat) ({ cls := "java/lang/Math", name := "min", desc := "(II)I" } : Jvm.MethodName)) ∈ lw_T := lw_in1 220 rfl rfl
theorem t1_221 : (Jvm.Cond.methodLink "BuildDisk$Disk" (41 : Nat) ({ cls := "java/lang/System", name := "arraycopy", desc := "(Ljava/lang/Object;ILjava/lang/Object;II)V" } : Jvm.MethodName)) ∈ lw_T := lw_in1 221 rfl rfl
theorem t1_222 : (Jvm.Cond.static ({ cls := "java/lang/System", name := "arraycopy", desc := "(Ljava/lang/Object;ILjava/lang/Object;II)V" } : Jvm.MethodName)) ∈ lw_T := lw_in1 222 rfl rfl
theorem t1_223 : (Jvm.Cond.native ({ cls := "java/lang/System", name := "arraycopy", desc := "(Ljava/lang/Object;ILjava/lang/Object;II)V" } : Jvm.MethodName)) ∈ lw_T := lw_in1 223 rfl rfl
theorem t1_224 : (Jvm.Cond.methodLink "BuildDisk$Disk" (34 : Nat) ({ cls := "BuildDisk$Disk", name := "addTarget", desc := "(I)I" } : Jvm.MethodName)) ∈ lw_T := lw_in1 224 rfl rfl
theorem t1_226 : (Jvm.Cond.instanceMethod ({ cls := "BuildDisk$Disk", name := "addTarget", desc := "(I)I" } : Jvm.MethodName)) ∈ lw_T := lw_in1 226 rfl rfl
theorem t1_227 : (Jvm.Cond.code ({ cls := "BuildDisk$Disk", name := "addTarget", desc := "(I)I" } : Jvm.MethodName) prog_2_method_6_code (3 : Nat) (Option.some Jvm.ClassFile.FieldType.int)) ∈ lw_T := lw_in1 227 rfl rfl
theorem t1_238 : (Jvm.Cond.methodLink "BuildDisk$Table" (51 : Nat) ({ cls := "BuildDisk$Table", name := "isRow", desc := "([BII)Z" } : Jvm.MethodName)) ∈ lw_T := lw_in1 238 rfl rfl
theorem t1_239 : (Jvm.Cond.static ({ cls := "BuildDisk$Table", name := "isRow", desc := "([BII)Z" } : Jvm.MethodName)) ∈ lw_T := lw_in1 239 rfl rfl
theorem t1_27 : (Jvm.Cond.static ({ cls := "java/lang/Math", name := "min", desc := "(II)I" } : Jvm.MethodName)) ∈ lw_T := lw_in1 27 rfl rfl
theorem t1_28 : (Jvm.Cond.code ({ cls := "java/lang/Math", name := "min", desc := "(II)I" } : Jvm.MethodName) prog_12_method_69_code (2 : Nat) (Option.some Jvm.ClassFile.FieldType.int)) ∈ lw_T := lw_in1 28 rfl rfl
theorem t1_3 : (Jvm.Cond.initialized "BuildDisk$Disk") ∈ lw_T := lw_in1 3 rfl rfl
theorem t1_38 : (Jvm.Cond.fieldLink "BuildDisk$Disk" (15 : Nat) "BuildDisk$Disk" "bytes" "[B") ∈ lw_T := lw_in1 38 rfl rfl
theorem t1_4 : (Jvm.Cond.initialized "BuildDisk$Table") ∈ lw_T := lw_in1 4 rfl rfl
theorem t1_40 : (Jvm.Cond.fieldLink "BuildDisk$Disk" (20 : Nat) "BuildDisk$Disk" "queue" "[B") ∈ lw_T := lw_in1 40 rfl rfl
theorem t1_41 : (Jvm.Cond.fieldLink "BuildDisk" (224 : Nat) "BuildDisk$Disk" "queue" "[B") ∈ lw_T := lw_in1 41 rfl rfl
theorem t1_42 : (Jvm.Cond.fieldLink "BuildDisk$Disk" (23 : Nat) "BuildDisk$Disk" "targets" "[I") ∈ lw_T := lw_in1 42 rfl rfl
theorem t1_43 : (Jvm.Cond.fieldLink "BuildDisk$Disk" (27 : Nat) "BuildDisk$Disk" "waitCount" "I") ∈ lw_T := lw_in1 43 rfl rfl
theorem t1_44 : (Jvm.Cond.laysFinal "BuildDisk$Disk" "BuildDisk$Disk" "sectors" "I") ∈ lw_T := lw_in1 44 rfl rfl
theorem t1_46 : (Jvm.Cond.laysFinal "BuildDisk$Disk" "BuildDisk$Disk" "bytes" "[B") ∈ lw_T := lw_in1 46 rfl rfl
theorem t1_48 : (Jvm.Cond.laysFinal "BuildDisk$Disk" "BuildDisk$Disk" "queue" "[B") ∈ lw_T := lw_in1 48 rfl rfl
theorem t1_50 : (Jvm.Cond.laysFinal "BuildDisk$Disk" "BuildDisk$Disk" "targets" "[I") ∈ lw_T := lw_in1 50 rfl rfl
theorem t1_52 : (Jvm.Cond.lays "BuildDisk$Disk" "BuildDisk$Disk" "waitCount" "I") ∈ lw_T := lw_in1 52 rfl rfl
theorem t1_63 : (Jvm.Cond.fieldLink "BuildDisk$Table" (9 : Nat) "BuildDisk$Table" "kinds" "[I") ∈ lw_T := lw_in1 63 rfl rfl
theorem t1_64 : (Jvm.Cond.fieldLink "BuildDisk$Table" (15 : Nat) "BuildDisk$Table" "names" "[I") ∈ lw_T := lw_in1 64 rfl rfl
theorem t1_65 : (Jvm.Cond.fieldLink "BuildDisk$Table" (18 : Nat) "BuildDisk$Table" "askCounts" "[I") ∈ lw_T := lw_in1 65 rfl rfl
theorem t1_66 : (Jvm.Cond.fieldLink "BuildDisk$Table" (21 : Nat) "BuildDisk$Table" "askKeys" "[I") ∈ lw_T := lw_in1 66 rfl rfl
theorem t1_67 : (Jvm.Cond.fieldLink "BuildDisk$Table" (24 : Nat) "BuildDisk$Table" "digests" "[J") ∈ lw_T := lw_in1 67 rfl rfl
theorem t1_68 : (Jvm.Cond.fieldLink "BuildDisk$Table" (28 : Nat) "BuildDisk$Table" "latestPlaces" "[I") ∈ lw_T := lw_in1 68 rfl rfl
theorem t1_69 : (Jvm.Cond.fieldLink "BuildDisk$Table" (41 : Nat) "BuildDisk$Table" "lockPlace" "I") ∈ lw_T := lw_in1 69 rfl rfl
theorem t1_7 : (Jvm.Cond.initialized "BuildDisk$Head") ∈ lw_T := lw_in1 7 rfl rfl
theorem t1_70 : (Jvm.Cond.fieldLink "BuildDisk$Table" (31 : Nat) "BuildDisk$Table" "rowsEnd" "I") ∈ lw_T := lw_in1 70 rfl rfl
theorem t1_71 : (Jvm.Cond.fieldLink "BuildDisk$Table" (35 : Nat) "BuildDisk$Table" "wrongPlaces" "I") ∈ lw_T := lw_in1 71 rfl rfl
theorem t1_72 : (Jvm.Cond.fieldLink "BuildDisk$Table" (38 : Nat) "BuildDisk$Table" "lastWrong" "I") ∈ lw_T := lw_in1 72 rfl rfl
theorem t1_73 : (Jvm.Cond.laysFinal "BuildDisk$Table" "BuildDisk$Table" "kinds" "[I") ∈ lw_T := lw_in1 73 rfl rfl
theorem t1_75 : (Jvm.Cond.laysFinal "BuildDisk$Table" "BuildDisk$Table" "names" "[I") ∈ lw_T := lw_in1 75 rfl rfl
theorem t1_77 : (Jvm.Cond.laysFinal "BuildDisk$Table" "BuildDisk$Table" "askCounts" "[I") ∈ lw_T := lw_in1 77 rfl rfl
theorem t1_79 : (Jvm.Cond.laysFinal "BuildDisk$Table" "BuildDisk$Table" "askKeys" "[I") ∈ lw_T := lw_in1 79 rfl rfl
theorem t1_8 : (Jvm.Cond.initialized "BuildDisk$Numbers") ∈ lw_T := lw_in1 8 rfl rfl
theorem t1_81 : (Jvm.Cond.laysFinal "BuildDisk$Table" "BuildDisk$Table" "digests" "[J") ∈ lw_T := lw_in1 81 rfl rfl
theorem t1_83 : (Jvm.Cond.laysFinal "BuildDisk$Table" "BuildDisk$Table" "latestPlaces" "[I") ∈ lw_T := lw_in1 83 rfl rfl
theorem t1_85 : (Jvm.Cond.lays "BuildDisk$Table" "BuildDisk$Table" "lockPlace" "I") ∈ lw_T := lw_in1 85 rfl rfl
theorem t1_87 : (Jvm.Cond.lays "BuildDisk$Table" "BuildDisk$Table" "rowsEnd" "I") ∈ lw_T := lw_in1 87 rfl rfl
theorem t1_89 : (Jvm.Cond.lays "BuildDisk$Table" "BuildDisk$Table" "wrongPlaces" "I") ∈ lw_T := lw_in1 89 rfl rfl
theorem t1_9 : (Jvm.Cond.initialized "java/lang/System") ∈ lw_T := lw_in1 9 rfl rfl
theorem t1_91 : (Jvm.Cond.lays "BuildDisk$Table" "BuildDisk$Table" "lastWrong" "I") ∈ lw_T := lw_in1 91 rfl rfl
theorem t2_0 : (Jvm.Cond.code ({ cls := "BuildDisk$Table", name := "isRow", desc := "([BII)Z" } : Jvm.MethodName) prog_5_method_22_code (6 : Nat) (Option.some Jvm.ClassFile.FieldType.boolean)) ∈ lw_T := lw_in2 0 rfl rfl
theorem t2_1 : (Jvm.Cond.methodLink "BuildDisk$Table" (81 : Nat) ({ cls := "BuildDisk$Table", name := "isKey", desc := "(I)Z" } : Jvm.MethodName)) ∈ lw_T := lw_in2 1 rfl rfl
theorem t2_10 : (Jvm.Cond.methodLink "BuildDisk$Table" (90 : Nat) ({ cls := "BuildDisk$Numbers", name := "hasSum", desc := "([BIII)Z" } : Jvm.MethodName)) ∈ lw_T := lw_in2 10 rfl rfl
theorem t2_11 : (Jvm.Cond.methodLink "BuildDisk$Table" (55 : Nat) ({ cls := "BuildDisk$Table", name := "readRow", desc := "([BII)V" } : Jvm.MethodName)) ∈ lw_T := lw_in2 11 rfl rfl
theorem t2_125 : (Jvm.Cond.methodLink "BuildDisk$Table" (44 : Nat) ({ cls := "BuildDisk$Table", name := "isWrongBehind", desc := "(I)Z" } : Jvm.MethodName)) ∈ lw_T := lw_in2 125 rfl rfl
theorem t2_126 : (Jvm.Cond.instanceMethod ({ cls := "BuildDisk$Table", name := "isWrongBehind", desc := "(I)Z" } : Jvm.MethodName)) ∈ lw_T := lw_in2 126 rfl rfl
theorem t2_127 : (Jvm.Cond.selects "BuildDisk$Table" ({ cls := "BuildDisk$Table", name := "isWrongBehind", desc := "(I)Z" } : Jvm.MethodName) ({ cls := "BuildDisk$Table", name := "isWrongBehind", desc := "(I)Z" } : Jvm.MethodName)) ∈ lw_T := lw_in2 127 rfl rfl
theorem t2_128 : (Jvm.Cond.code ({ cls := "BuildDisk$Table", name := "isWrongBehind", desc := "(I)Z" } : Jvm.MethodName) prog_5_method_13_code (2 : Nat) (Option.some Jvm.ClassFile.FieldType.boolean)) ∈ lw_T := lw_in2 128 rfl rfl
theorem t2_13 : (Jvm.Cond.instanceMethod ({ cls := "BuildDisk$Table", name := "readRow", desc := "([BII)V" } : Jvm.MethodName)) ∈ lw_T := lw_in2 13 rfl rfl
theorem t2_137 : (Jvm.Cond.methodLink "BuildDisk$Table" (63 : Nat) ({ cls := "BuildDisk$Table", name := "move", desc := "(II)V" } : Jvm.MethodName)) ∈ lw_T := lw_in2 137 rfl rfl
theorem t2_139 : (Jvm.Cond.instanceMethod ({ cls := "BuildDisk$Table", name := "move", desc := "(II)V" } : Jvm.MethodName)) ∈ lw_T := lw_in2 139 rfl rfl
theorem t2_14 : (Jvm.Cond.code ({ cls := "BuildDisk$Table", name := "readRow", desc := "([BII)V" } : Jvm.MethodName) prog_5_method_24_code (5 : Nat) (Option.none : Option Jvm.ClassFile.FieldType)) ∈ lw_T := lw_in2 14 rfl rfl
theorem t2_140 : (Jvm.Cond.code ({ cls := "BuildDisk$Table", name := "move", desc := "(II)V" } : Jvm.MethodName) prog_5_method_25_code (4 : Nat) (Option.none : Option Jvm.ClassFile.FieldType)) ∈ lw_T := lw_in2 140 rfl rfl
theorem t2_15 : (Jvm.Cond.methodLink "BuildDisk$Table" (94 : Nat) ({ cls := "BuildDisk$Numbers", name := "read", desc := "([BII)J" } : Jvm.MethodName)) ∈ lw_T := lw_in2 15 rfl rfl
theorem t2_2 : (Jvm.Cond.static ({ cls := "BuildDisk$Table", name := "isKey", desc := "(I)Z" } : Jvm.MethodName)) ∈ lw_T := lw_in2 2 rfl rfl
theorem t2_28 : (Jvm.Cond.methodLink "BuildDisk" (221 : Nat) ({ cls := "java/lang/Math", name := "floorMod", desc := "(II)I" } : Jvm.MethodName)) ∈ lw_T := lw_in2 28 rfl rfl
theorem t2_29 : (Jvm.Cond.static ({ cls := "java/lang/Math", name := "floorMod", desc := "(II)I" } : Jvm.MethodName)) ∈ lw_T := lw_in2 29 rfl rfl
theorem t2_3 : (Jvm.Cond.code ({ cls := "BuildDisk$Table", name := "isKey", desc := "(I)Z" } : Jvm.MethodName) prog_5_method_2_code (1 : Nat) (Option.some Jvm.ClassFile.FieldType.boolean)) ∈ lw_T := lw_in2 3 rfl rfl
theorem t2_30 : (Jvm.Cond.code ({ cls := "java/lang/Math", name := "floorMod", desc := "(II)I" } : Jvm.MethodName) prog_12_method_50_code (3 : Nat) (Option.some Jvm.ClassFile.FieldType.int)) ∈ lw_T := lw_in2 30 rfl rfl
theorem t2_31 : (Jvm.Cond.methodLink "BuildDisk" (227 : Nat) ({ cls := "BuildDisk$Head", name := "write", desc := "([BIIII)V" } : Jvm.MethodName)) ∈ lw_T := lw_in2 31 rfl rfl
theorem t2_32 : (Jvm.Cond.static ({ cls := "BuildDisk$Head", name := "write", desc := "([BIIII)V" } : Jvm.MethodName)) ∈ lw_T := lw_in2 32 rfl rfl
theorem t2_33 : (Jvm.Cond.code ({ cls := "BuildDisk$Head", name := "write", desc := "([BIIII)V" } : Jvm.MethodName) prog_3_method_7_code (5 : Nat) (Option.none : Option Jvm.ClassFile.FieldType)) ∈ lw_T := lw_in2 33 rfl rfl
theorem t2_34 : (Jvm.Cond.methodLink "BuildDisk$Head" (36 : Nat) ({ cls := "BuildDisk$Numbers", name := "write", desc := "([BIIJ)V" } : Jvm.MethodName)) ∈ lw_T := lw_in2 34 rfl rfl
theorem t2_35 : (Jvm.Cond.static ({ cls := "BuildDisk$Numbers", name := "write", desc := "([BIIJ)V" } : Jvm.MethodName)) ∈ lw_T := lw_in2 35 rfl rfl
theorem t2_36 : (Jvm.Cond.code ({ cls := "BuildDisk$Numbers", name := "write", desc := "([BIIJ)V" } : Jvm.MethodName) prog_4_method_3_code (6 : Nat) (Option.none : Option Jvm.ClassFile.FieldType)) ∈ lw_T := lw_in2 36 rfl rfl
theorem t2_37 : (Jvm.Cond.methodLink "BuildDisk$Head" (40 : Nat) ({ cls := "BuildDisk$Numbers", name := "writeSum", desc := "([BIII)V" } : Jvm.MethodName)) ∈ lw_T := lw_in2 37 rfl rfl
theorem t2_38 : (Jvm.Cond.static ({ cls := "BuildDisk$Numbers", name := "writeSum", desc := "([BIII)V" } : Jvm.MethodName)) ∈ lw_T := lw_in2 38 rfl rfl
theorem t2_39 : (Jvm.Cond.code ({ cls := "BuildDisk$Numbers", name := "writeSum", desc := "([BIII)V" } : Jvm.MethodName) prog_4_method_6_code (4 : Nat) (Option.none : Option Jvm.ClassFile.FieldType)) ∈ lw_T := lw_in2 39 rfl rfl
theorem t2_4 : (Jvm.Cond.methodLink "BuildDisk$Table" (84 : Nat) ({ cls := "BuildDisk$Table", name := "areKeys", desc := "([BII)Z" } : Jvm.MethodName)) ∈ lw_T := lw_in2 4 rfl rfl
theorem t2_40 : (Jvm.Cond.methodLink "BuildDisk$Numbers" (18 : Nat) ({ cls := "BuildDisk$Numbers", name := "write", desc := "([BIIJ)V" } : Jvm.MethodName)) ∈ lw_T := lw_in2 40 rfl rfl
theorem t2_5 : (Jvm.Cond.static ({ cls := "BuildDisk$Table", name := "areKeys", desc := "([BII)Z" } : Jvm.MethodName)) ∈ lw_T := lw_in2 5 rfl rfl
theorem t2_6 : (Jvm.Cond.code ({ cls := "BuildDisk$Table", name := "areKeys", desc := "([BII)Z" } : Jvm.MethodName) prog_5_method_23_code (4 : Nat) (Option.some Jvm.ClassFile.FieldType.boolean)) ∈ lw_T := lw_in2 6 rfl rfl
theorem t2_66 : (Jvm.Cond.methodLink "BuildDisk$Disk" (38 : Nat) ({ cls := "BuildDisk$Disk", name := "latestWrite", desc := "(I)I" } : Jvm.MethodName)) ∈ lw_T := lw_in2 66 rfl rfl
theorem t2_68 : (Jvm.Cond.instanceMethod ({ cls := "BuildDisk$Disk", name := "latestWrite", desc := "(I)I" } : Jvm.MethodName)) ∈ lw_T := lw_in2 68 rfl rfl
theorem t2_69 : (Jvm.Cond.code ({ cls := "BuildDisk$Disk", name := "latestWrite", desc := "(I)I" } : Jvm.MethodName) prog_2_method_7_code (3 : Nat) (Option.some Jvm.ClassFile.FieldType.int)) ∈ lw_T := lw_in2 69 rfl rfl
theorem t2_7 : (Jvm.Cond.methodLink "BuildDisk$Table" (87 : Nat) ({ cls := "BuildDisk$Table", name := "isUser", desc := "(I)Z" } : Jvm.MethodName)) ∈ lw_T := lw_in2 7 rfl rfl
theorem t2_74 : (Jvm.Cond.methodLink "BuildDisk$Table" (67 : Nat) ({ cls := "BuildDisk$Table", name := "askAt", desc := "(II)I" } : Jvm.MethodName)) ∈ lw_T := lw_in2 74 rfl rfl
theorem t2_75 : (Jvm.Cond.instanceMethod ({ cls := "BuildDisk$Table", name := "askAt", desc := "(II)I" } : Jvm.MethodName)) ∈ lw_T := lw_in2 75 rfl rfl
theorem t2_76 : (Jvm.Cond.selects "BuildDisk$Table" ({ cls := "BuildDisk$Table", name := "askAt", desc := "(II)I" } : Jvm.MethodName) ({ cls := "BuildDisk$Table", name := "askAt", desc := "(II)I" } : Jvm.MethodName)) ∈ lw_T := lw_in2 76 rfl rfl
theorem t2_77 : (Jvm.Cond.code ({ cls := "BuildDisk$Table", name := "askAt", desc := "(II)I" } : Jvm.MethodName) prog_5_method_10_code (3 : Nat) (Option.some Jvm.ClassFile.FieldType.int)) ∈ lw_T := lw_in2 77 rfl rfl
theorem t2_78 : (Jvm.Cond.methodLink "BuildDisk$Table" (71 : Nat) ({ cls := "BuildDisk$Numbers", name := "write", desc := "([BIIJ)V" } : Jvm.MethodName)) ∈ lw_T := lw_in2 78 rfl rfl
theorem t2_79 : (Jvm.Cond.methodLink "BuildDisk$Table" (77 : Nat) ({ cls := "BuildDisk$Numbers", name := "writeSum", desc := "([BIII)V" } : Jvm.MethodName)) ∈ lw_T := lw_in2 79 rfl rfl
theorem t2_8 : (Jvm.Cond.static ({ cls := "BuildDisk$Table", name := "isUser", desc := "(I)Z" } : Jvm.MethodName)) ∈ lw_T := lw_in2 8 rfl rfl
theorem t2_9 : (Jvm.Cond.code ({ cls := "BuildDisk$Table", name := "isUser", desc := "(I)Z" } : Jvm.MethodName) prog_5_method_3_code (1 : Nat) (Option.some Jvm.ClassFile.FieldType.boolean)) ∈ lw_T := lw_in2 9 rfl rfl
theorem t3_102 : (Jvm.Cond.lays "BuildDiskModel" "BuildDiskModel" "thrown" "I") ∈ lw_T := lw_in3 102 rfl rfl
theorem t3_104 : (Jvm.Cond.laysFinal "BuildDiskModel" "BuildDiskModel" "sectors" "I") ∈ lw_T := lw_in3 104 rfl rfl
theorem t3_106 : (Jvm.Cond.laysFinal "BuildDiskModel" "BuildDiskModel" "each" "I") ∈ lw_T := lw_in3 106 rfl rfl
theorem t3_108 : (Jvm.Cond.laysFinal "BuildDiskModel" "BuildDiskModel" "disk" "[I") ∈ lw_T := lw_in3 108 rfl rfl
theorem t3_110 : (Jvm.Cond.laysFinal "BuildDiskModel" "BuildDiskModel" "waiting" "[I") ∈ lw_T := lw_in3 110 rfl rfl
theorem t3_112 : (Jvm.Cond.laysFinal "BuildDiskModel" "BuildDiskModel" "where" "[I") ∈ lw_T := lw_in3 112 rfl rfl
theorem t3_114 : (Jvm.Cond.lays "BuildDiskModel" "BuildDiskModel" "waits" "I") ∈ lw_T := lw_in3 114 rfl rfl
theorem t3_116 : (Jvm.Cond.laysFinal "BuildDiskModel" "BuildDiskModel" "now" "[I") ∈ lw_T := lw_in3 116 rfl rfl
theorem t3_118 : (Jvm.Cond.lays "BuildDiskModel" "BuildDiskModel" "runs" "Z") ∈ lw_T := lw_in3 118 rfl rfl
theorem t3_120 : (Jvm.Cond.lays "BuildDiskModel" "BuildDiskModel" "edition" "I") ∈ lw_T := lw_in3 120 rfl rfl
theorem t3_122 : (Jvm.Cond.lays "BuildDiskModel" "BuildDiskModel" "wanted" "I") ∈ lw_T := lw_in3 122 rfl rfl
theorem t3_124 : (Jvm.Cond.lays "BuildDiskModel" "BuildDiskModel" "sequence" "I") ∈ lw_T := lw_in3 124 rfl rfl
theorem t3_126 : (Jvm.Cond.lays "BuildDiskModel" "BuildDiskModel" "area" "I") ∈ lw_T := lw_in3 126 rfl rfl
theorem t3_128 : (Jvm.Cond.lays "BuildDiskModel" "BuildDiskModel" "end" "I") ∈ lw_T := lw_in3 128 rfl rfl
theorem t3_130 : (Jvm.Cond.lays "BuildDiskModel" "BuildDiskModel" "settled" "I") ∈ lw_T := lw_in3 130 rfl rfl
theorem t3_132 : (Jvm.Cond.lays "BuildDiskModel" "BuildDiskModel" "wrongs" "I") ∈ lw_T := lw_in3 132 rfl rfl
theorem t3_134 : (Jvm.Cond.lays "BuildDiskModel" "BuildDiskModel" "taken" "I") ∈ lw_T := lw_in3 134 rfl rfl
theorem t3_136 : (Jvm.Cond.lays "BuildDiskModel" "BuildDiskModel" "copied" "I") ∈ lw_T := lw_in3 136 rfl rfl
theorem t3_138 : (Jvm.Cond.lays "BuildDiskModel" "BuildDiskModel" "compacts" "Z") ∈ lw_T := lw_in3 138 rfl rfl
theorem t3_140 : (Jvm.Cond.laysFinal "BuildDiskModel" "BuildDiskModel" "kind" "[I") ∈ lw_T := lw_in3 140 rfl rfl
theorem t3_142 : (Jvm.Cond.laysFinal "BuildDiskModel" "BuildDiskModel" "key" "[I") ∈ lw_T := lw_in3 142 rfl rfl
theorem t3_144 : (Jvm.Cond.laysFinal "BuildDiskModel" "BuildDiskModel" "many" "[I") ∈ lw_T := lw_in3 144 rfl rfl
theorem t3_146 : (Jvm.Cond.laysFinal "BuildDiskModel" "BuildDiskModel" "asked" "[I") ∈ lw_T := lw_in3 146 rfl rfl
theorem t3_148 : (Jvm.Cond.laysFinal "BuildDiskModel" "BuildDiskModel" "digest" "[J") ∈ lw_T := lw_in3 148 rfl rfl
theorem t3_150 : (Jvm.Cond.laysFinal "BuildDiskModel" "BuildDiskModel" "unkept" "[Z") ∈ lw_T := lw_in3 150 rfl rfl
theorem t3_152 : (Jvm.Cond.laysFinal "BuildDiskModel" "BuildDiskModel" "unkeptDigest" "[J") ∈ lw_T := lw_in3 152 rfl rfl
theorem iX0 : ∀ w ∈ u_ws RX0 TX0 5, w ∈ lw_T := by
  intro w hw
  obtain ⟨k, hk, rfl⟩ := List.mem_map.mp hw
  have hk : k < 5 := List.mem_range.mp hk
  match k, hk with
  | 0, _ => exact t1_44
  | 1, _ => exact t1_46
  | 2, _ => exact t1_48
  | 3, _ => exact t1_50
  | 4, _ => exact t1_52
  | k + 5, h => exact absurd h (by omega)
theorem iX3 : ∀ w ∈ u_ws RX3 TX3 10, w ∈ lw_T := by
  intro w hw
  obtain ⟨k, hk, rfl⟩ := List.mem_map.mp hw
  have hk : k < 10 := List.mem_range.mp hk
  match k, hk with
  | 0, _ => exact t1_73
  | 1, _ => exact t1_75
  | 2, _ => exact t1_77
  | 3, _ => exact t1_79
  | 4, _ => exact t1_81
  | 5, _ => exact t1_83
  | 6, _ => exact t1_85
  | 7, _ => exact t1_87
  | 8, _ => exact t1_89
  | 9, _ => exact t1_91
  | k + 10, h => exact absurd h (by omega)
theorem iX4 : ∀ w ∈ u_ws RX4 TX4 2, w ∈ lw_T := by
  intro w hw
  obtain ⟨k, hk, rfl⟩ := List.mem_map.mp hw
  have hk : k < 2 := List.mem_range.mp hk
  match k, hk with
  | 0, _ => exact t1_103
  | 1, _ => exact t1_105
  | k + 2, h => exact absurd h (by omega)
theorem iX5 : ∀ w ∈ u_ws RX5 TX5 14, w ∈ lw_T := by
  intro w hw
  obtain ⟨k, hk, rfl⟩ := List.mem_map.mp hw
  have hk : k < 14 := List.mem_range.mp hk
  match k, hk with
  | 0, _ => exact t1_123
  | 1, _ => exact t1_125
  | 2, _ => exact t1_127
  | 3, _ => exact t1_129
  | 4, _ => exact t1_131
  | 5, _ => exact t1_133
  | 6, _ => exact t1_135
  | 7, _ => exact t1_137
  | 8, _ => exact t1_139
  | 9, _ => exact t1_141
  | 10, _ => exact t1_143
  | 11, _ => exact t1_145
  | 12, _ => exact t1_147
  | 13, _ => exact t1_149
  | k + 14, h => exact absurd h (by omega)
theorem iX6 : ∀ w ∈ u_ws RX6 TX6 26, w ∈ lw_T := by
  intro w hw
  obtain ⟨k, hk, rfl⟩ := List.mem_map.mp hw
  have hk : k < 26 := List.mem_range.mp hk
  match k, hk with
  | 0, _ => exact t3_102
  | 1, _ => exact t3_104
  | 2, _ => exact t3_106
  | 3, _ => exact t3_108
  | 4, _ => exact t3_110
  | 5, _ => exact t3_112
  | 6, _ => exact t3_114
  | 7, _ => exact t3_116
  | 8, _ => exact t3_118
  | 9, _ => exact t3_120
  | 10, _ => exact t3_122
  | 11, _ => exact t3_124
  | 12, _ => exact t3_126
  | 13, _ => exact t3_128
  | 14, _ => exact t3_130
  | 15, _ => exact t3_132
  | 16, _ => exact t3_134
  | 17, _ => exact t3_136
  | 18, _ => exact t3_138
  | 19, _ => exact t3_140
  | 20, _ => exact t3_142
  | 21, _ => exact t3_144
  | 22, _ => exact t3_146
  | 23, _ => exact t3_148
  | 24, _ => exact t3_150
  | 25, _ => exact t3_152
  | k + 26, h => exact absurd h (by omega)
theorem ndJ9_floorMod_7cf53 : yJ9_floorMod_7cf53.cls ≠ "java/lang/invoke/MethodHandle" ∧ yJ9_floorMod_7cf53.cls ≠ "java/lang/invoke/VarHandle" ∧ (parseMethodDescriptor yJ9_floorMod_7cf53.desc).map (fun d => d.parameters.length) = some 2 := by decide +kernel
theorem ndX0_addTarget : yX0_addTarget.cls ≠ "java/lang/invoke/MethodHandle" ∧ yX0_addTarget.cls ≠ "java/lang/invoke/VarHandle" ∧ (parseMethodDescriptor yX0_addTarget.desc).map (fun d => d.parameters.length) = some 1 := by decide +kernel
theorem ndX0_bring : yX0_bring.cls ≠ "java/lang/invoke/MethodHandle" ∧ yX0_bring.cls ≠ "java/lang/invoke/VarHandle" ∧ (parseMethodDescriptor yX0_bring.desc).map (fun d => d.parameters.length) = some 2 := by decide +kernel
theorem ndX0_latestWrite : yX0_latestWrite.cls ≠ "java/lang/invoke/MethodHandle" ∧ yX0_latestWrite.cls ≠ "java/lang/invoke/VarHandle" ∧ (parseMethodDescriptor yX0_latestWrite.desc).map (fun d => d.parameters.length) = some 1 := by decide +kernel
theorem ndX0_waitWithZeros : yX0_waitWithZeros.cls ≠ "java/lang/invoke/MethodHandle" ∧ yX0_waitWithZeros.cls ≠ "java/lang/invoke/VarHandle" ∧ (parseMethodDescriptor yX0_waitWithZeros.desc).map (fun d => d.parameters.length) = some 1 := by decide +kernel
theorem ndX1_areaAt : yX1_areaAt.cls ≠ "java/lang/invoke/MethodHandle" ∧ yX1_areaAt.cls ≠ "java/lang/invoke/VarHandle" ∧ (parseMethodDescriptor yX1_areaAt.desc).map (fun d => d.parameters.length) = some 2 := by decide +kernel
theorem ndX1_isGood : yX1_isGood.cls ≠ "java/lang/invoke/MethodHandle" ∧ yX1_isGood.cls ≠ "java/lang/invoke/VarHandle" ∧ (parseMethodDescriptor yX1_isGood.desc).map (fun d => d.parameters.length) = some 2 := by decide +kernel
theorem ndX1_sequenceAt : yX1_sequenceAt.cls ≠ "java/lang/invoke/MethodHandle" ∧ yX1_sequenceAt.cls ≠ "java/lang/invoke/VarHandle" ∧ (parseMethodDescriptor yX1_sequenceAt.desc).map (fun d => d.parameters.length) = some 2 := by decide +kernel
theorem ndX1_write : yX1_write.cls ≠ "java/lang/invoke/MethodHandle" ∧ yX1_write.cls ≠ "java/lang/invoke/VarHandle" ∧ (parseMethodDescriptor yX1_write.desc).map (fun d => d.parameters.length) = some 5 := by decide +kernel
theorem ndX2_hasSum : yX2_hasSum.cls ≠ "java/lang/invoke/MethodHandle" ∧ yX2_hasSum.cls ≠ "java/lang/invoke/VarHandle" ∧ (parseMethodDescriptor yX2_hasSum.desc).map (fun d => d.parameters.length) = some 4 := by decide +kernel
theorem ndX2_read : yX2_read.cls ≠ "java/lang/invoke/MethodHandle" ∧ yX2_read.cls ≠ "java/lang/invoke/VarHandle" ∧ (parseMethodDescriptor yX2_read.desc).map (fun d => d.parameters.length) = some 3 := by decide +kernel
theorem ndX2_sum : yX2_sum.cls ≠ "java/lang/invoke/MethodHandle" ∧ yX2_sum.cls ≠ "java/lang/invoke/VarHandle" ∧ (parseMethodDescriptor yX2_sum.desc).map (fun d => d.parameters.length) = some 4 := by decide +kernel
theorem ndX2_write : yX2_write.cls ≠ "java/lang/invoke/MethodHandle" ∧ yX2_write.cls ≠ "java/lang/invoke/VarHandle" ∧ (parseMethodDescriptor yX2_write.desc).map (fun d => d.parameters.length) = some 4 := by decide +kernel
theorem ndX2_writeSum : yX2_writeSum.cls ≠ "java/lang/invoke/MethodHandle" ∧ yX2_writeSum.cls ≠ "java/lang/invoke/VarHandle" ∧ (parseMethodDescriptor yX2_writeSum.desc).map (fun d => d.parameters.length) = some 4 := by decide +kernel
theorem ndX3_areKeys : yX3_areKeys.cls ≠ "java/lang/invoke/MethodHandle" ∧ yX3_areKeys.cls ≠ "java/lang/invoke/VarHandle" ∧ (parseMethodDescriptor yX3_areKeys.desc).map (fun d => d.parameters.length) = some 3 := by decide +kernel
theorem ndX3_askAt : yX3_askAt.cls ≠ "java/lang/invoke/MethodHandle" ∧ yX3_askAt.cls ≠ "java/lang/invoke/VarHandle" ∧ (parseMethodDescriptor yX3_askAt.desc).map (fun d => d.parameters.length) = some 2 := by decide +kernel
theorem ndX3_index : yX3_index.cls ≠ "java/lang/invoke/MethodHandle" ∧ yX3_index.cls ≠ "java/lang/invoke/VarHandle" ∧ (parseMethodDescriptor yX3_index.desc).map (fun d => d.parameters.length) = some 0 := by decide +kernel
theorem ndX3_indexPlace : yX3_indexPlace.cls ≠ "java/lang/invoke/MethodHandle" ∧ yX3_indexPlace.cls ≠ "java/lang/invoke/VarHandle" ∧ (parseMethodDescriptor yX3_indexPlace.desc).map (fun d => d.parameters.length) = some 1 := by decide +kernel
theorem ndX3_isKey : yX3_isKey.cls ≠ "java/lang/invoke/MethodHandle" ∧ yX3_isKey.cls ≠ "java/lang/invoke/VarHandle" ∧ (parseMethodDescriptor yX3_isKey.desc).map (fun d => d.parameters.length) = some 1 := by decide +kernel
theorem ndX3_isRow : yX3_isRow.cls ≠ "java/lang/invoke/MethodHandle" ∧ yX3_isRow.cls ≠ "java/lang/invoke/VarHandle" ∧ (parseMethodDescriptor yX3_isRow.desc).map (fun d => d.parameters.length) = some 3 := by decide +kernel
theorem ndX3_isUser : yX3_isUser.cls ≠ "java/lang/invoke/MethodHandle" ∧ yX3_isUser.cls ≠ "java/lang/invoke/VarHandle" ∧ (parseMethodDescriptor yX3_isUser.desc).map (fun d => d.parameters.length) = some 1 := by decide +kernel
theorem ndX3_isWrongBehind : yX3_isWrongBehind.cls ≠ "java/lang/invoke/MethodHandle" ∧ yX3_isWrongBehind.cls ≠ "java/lang/invoke/VarHandle" ∧ (parseMethodDescriptor yX3_isWrongBehind.desc).map (fun d => d.parameters.length) = some 1 := by decide +kernel
theorem ndX3_move : yX3_move.cls ≠ "java/lang/invoke/MethodHandle" ∧ yX3_move.cls ≠ "java/lang/invoke/VarHandle" ∧ (parseMethodDescriptor yX3_move.desc).map (fun d => d.parameters.length) = some 2 := by decide +kernel
theorem ndX3_readRow : yX3_readRow.cls ≠ "java/lang/invoke/MethodHandle" ∧ yX3_readRow.cls ≠ "java/lang/invoke/VarHandle" ∧ (parseMethodDescriptor yX3_readRow.desc).map (fun d => d.parameters.length) = some 3 := by decide +kernel
theorem ndX5_firstSector : yX5_firstSector.cls ≠ "java/lang/invoke/MethodHandle" ∧ yX5_firstSector.cls ≠ "java/lang/invoke/VarHandle" ∧ (parseMethodDescriptor yX5_firstSector.desc).map (fun d => d.parameters.length) = some 1 := by decide +kernel
