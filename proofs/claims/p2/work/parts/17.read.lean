theorem t_3 : (Jvm.Cond.selects "MakerStarts$Tokens" ({ cls := "MakerStarts$Tokens", name := "findKeys", desc := "()V" } : Jvm.MethodName) ({ cls := "MakerStarts$Tokens", name := "findKeys", desc := "()V" } : Jvm.MethodName)) ∈ TB := inTB 3 (by decide +kernel) (by decide +kernel)
theorem t_160 : (Jvm.Cond.initialized "java/util/Arrays") ∈ TB := inTB 160 (by decide +kernel) (by decide +kernel)
theorem t_162 : (Jvm.Cond.initialized "MakerStarts$Judge") ∈ TB := inTB 162 (by decide +kernel) (by decide +kernel)
theorem t_213 : (Jvm.Cond.fieldLink "MakerStarts$Flow" (27 : Nat) "MakerStarts$Text" "count" "I") ∈ TB := inTB 213 (by decide +kernel) (by decide +kernel)
theorem t_215 : (Jvm.Cond.fieldLink "MakerStarts$Judge" (33 : Nat) "MakerStarts$Text" "count" "I") ∈ TB := inTB 215 (by decide +kernel) (by decide +kernel)
theorem t_219 : (Jvm.Cond.fieldLink "MakerStarts$Judge" (9 : Nat) "MakerStarts$Text" "uses" "Ljava/util/ArrayList;") ∈ TB := inTB 219 (by decide +kernel) (by decide +kernel)
theorem t_222 : (Jvm.Cond.fieldLink "MakerStarts$Text" (38 : Nat) "MakerStarts$Text" "size" "I") ∈ TB := inTB 222 (by decide +kernel) (by decide +kernel)
theorem t_226 : (Jvm.Cond.fieldLink "MakerStarts$Text" (41 : Nat) "MakerStarts$Text" "shapes" "I") ∈ TB := inTB 226 (by decide +kernel) (by decide +kernel)
theorem t_229 : (Jvm.Cond.fieldLink "MakerStarts$Text" (44 : Nat) "MakerStarts$Text" "fault" "I") ∈ TB := inTB 229 (by decide +kernel) (by decide +kernel)
theorem t_231 : (Jvm.Cond.fieldLink "MakerStarts" (67 : Nat) "MakerStarts$Text" "fault" "I") ∈ TB := inTB 231 (by decide +kernel) (by decide +kernel)
theorem t_232 : (Jvm.Cond.fieldLink "MakerStarts$Text" (47 : Nat) "MakerStarts$Text" "faultPlace" "I") ∈ TB := inTB 232 (by decide +kernel) (by decide +kernel)
theorem t_234 : (Jvm.Cond.fieldLink "MakerStarts" (66 : Nat) "MakerStarts$Text" "faultPlace" "I") ∈ TB := inTB 234 (by decide +kernel) (by decide +kernel)
theorem t_320 : (Jvm.Cond.fieldLink "MakerStarts$Tokens" (37 : Nat) "MakerStarts$Tokens" "count" "I") ∈ TB := inTB 320 (by decide +kernel) (by decide +kernel)
theorem t_321 : (Jvm.Cond.fieldLink "MakerStarts$Tokens" (41 : Nat) "MakerStarts$Tokens" "length" "I") ∈ TB := inTB 321 (by decide +kernel) (by decide +kernel)
theorem t_322 : (Jvm.Cond.fieldLink "MakerStarts$Tokens" (43 : Nat) "MakerStarts$Tokens" "at" "I") ∈ TB := inTB 322 (by decide +kernel) (by decide +kernel)
theorem t_323 : (Jvm.Cond.fieldLink "MakerStarts$Tokens" (46 : Nat) "MakerStarts$Tokens" "fault" "I") ∈ TB := inTB 323 (by decide +kernel) (by decide +kernel)
theorem t_324 : (Jvm.Cond.fieldLink "MakerStarts$Reader" (103 : Nat) "MakerStarts$Tokens" "fault" "I") ∈ TB := inTB 324 (by decide +kernel) (by decide +kernel)
theorem t_326 : (Jvm.Cond.fieldLink "MakerStarts$Tokens" (49 : Nat) "MakerStarts$Tokens" "faultPlace" "I") ∈ TB := inTB 326 (by decide +kernel) (by decide +kernel)
theorem t_427 : (Jvm.Cond.fieldLink "MakerStarts$Machine" (80 : Nat) "MakerStarts$Frame" "madeType" "I") ∈ TB := inTB 427 (by decide +kernel) (by decide +kernel)
theorem t_566 : (Jvm.Cond.methodLink "MakerStarts" (53 : Nat) ({ cls := "MakerStarts$Text", name := "clear", desc := "()V" } : Jvm.MethodName)) ∈ TB := inTB 566 (by decide +kernel) (by decide +kernel)
theorem t_567 : (Jvm.Cond.instanceMethod ({ cls := "MakerStarts$Text", name := "clear", desc := "()V" } : Jvm.MethodName)) ∈ TB := inTB 567 (by decide +kernel) (by decide +kernel)
theorem t_568 : (Jvm.Cond.selects "MakerStarts$Text" ({ cls := "MakerStarts$Text", name := "clear", desc := "()V" } : Jvm.MethodName) ({ cls := "MakerStarts$Text", name := "clear", desc := "()V" } : Jvm.MethodName)) ∈ TB := inTB 568 (by decide +kernel) (by decide +kernel)
theorem t_569 : (Jvm.Cond.code ({ cls := "MakerStarts$Text", name := "clear", desc := "()V" } : Jvm.MethodName) prog_9_method_2_code (2 : Nat) (Option.none : Option Jvm.ClassFile.FieldType)) ∈ TB := inTB 569 (by decide +kernel) (by decide +kernel)
theorem t_570 : (Jvm.Cond.methodLink "MakerStarts$Text" (35 : Nat) ({ cls := "java/util/ArrayList", name := "clear", desc := "()V" } : Jvm.MethodName)) ∈ TB := inTB 570 (by decide +kernel) (by decide +kernel)
theorem t_571 : (Jvm.Cond.instanceMethod ({ cls := "java/util/ArrayList", name := "clear", desc := "()V" } : Jvm.MethodName)) ∈ TB := inTB 571 (by decide +kernel) (by decide +kernel)
theorem t_572 : (Jvm.Cond.selects "java/util/ArrayList" ({ cls := "java/util/ArrayList", name := "clear", desc := "()V" } : Jvm.MethodName) ({ cls := "java/util/ArrayList", name := "clear", desc := "()V" } : Jvm.MethodName)) ∈ TB := inTB 572 (by decide +kernel) (by decide +kernel)
theorem t_573 : (Jvm.Cond.code ({ cls := "java/util/ArrayList", name := "clear", desc := "()V" } : Jvm.MethodName) prog_31_method_40_code (4 : Nat) (Option.none : Option Jvm.ClassFile.FieldType)) ∈ TB := inTB 573 (by decide +kernel) (by decide +kernel)
theorem t_574 : (Jvm.Cond.methodLink "MakerStarts" (56 : Nat) ({ cls := "MakerStarts$Reader", name := "reads", desc := "([BILMakerStarts$Text;)Z" } : Jvm.MethodName)) ∈ TB := inTB 574 (by decide +kernel) (by decide +kernel)
theorem t_575 : (Jvm.Cond.instanceMethod ({ cls := "MakerStarts$Reader", name := "reads", desc := "([BILMakerStarts$Text;)Z" } : Jvm.MethodName)) ∈ TB := inTB 575 (by decide +kernel) (by decide +kernel)
theorem t_576 : (Jvm.Cond.selects "MakerStarts$Reader" ({ cls := "MakerStarts$Reader", name := "reads", desc := "([BILMakerStarts$Text;)Z" } : Jvm.MethodName) ({ cls := "MakerStarts$Reader", name := "reads", desc := "([BILMakerStarts$Text;)Z" } : Jvm.MethodName)) ∈ TB := inTB 576 (by decide +kernel) (by decide +kernel)
theorem t_577 : (Jvm.Cond.code ({ cls := "MakerStarts$Reader", name := "reads", desc := "([BILMakerStarts$Text;)Z" } : Jvm.MethodName) prog_8_method_2_code (8 : Nat) (Option.some Jvm.ClassFile.FieldType.boolean)) ∈ TB := inTB 577 (by decide +kernel) (by decide +kernel)
theorem t_578 : (Jvm.Cond.methodLink "MakerStarts$Reader" (31 : Nat) ({ cls := "MakerStarts$Tokens", name := "scan", desc := "([BI)V" } : Jvm.MethodName)) ∈ TB := inTB 578 (by decide +kernel) (by decide +kernel)
theorem t_579 : (Jvm.Cond.instanceMethod ({ cls := "MakerStarts$Tokens", name := "scan", desc := "([BI)V" } : Jvm.MethodName)) ∈ TB := inTB 579 (by decide +kernel) (by decide +kernel)
theorem t_580 : (Jvm.Cond.selects "MakerStarts$Tokens" ({ cls := "MakerStarts$Tokens", name := "scan", desc := "([BI)V" } : Jvm.MethodName) ({ cls := "MakerStarts$Tokens", name := "scan", desc := "([BI)V" } : Jvm.MethodName)) ∈ TB := inTB 580 (by decide +kernel) (by decide +kernel)
theorem t_581 : (Jvm.Cond.code ({ cls := "MakerStarts$Tokens", name := "scan", desc := "([BI)V" } : Jvm.MethodName) prog_10_method_2_code (5 : Nat) (Option.none : Option Jvm.ClassFile.FieldType)) ∈ TB := inTB 581 (by decide +kernel) (by decide +kernel)
theorem t_661 : (Jvm.Cond.methodLink "MakerStarts$Tokens" (64 : Nat) ({ cls := "MakerStarts$Tokens", name := "findKeys", desc := "()V" } : Jvm.MethodName)) ∈ TB := inTB 661 (by decide +kernel) (by decide +kernel)
theorem t_663 : (Jvm.Cond.instanceMethod ({ cls := "MakerStarts$Tokens", name := "findKeys", desc := "()V" } : Jvm.MethodName)) ∈ TB := inTB 663 (by decide +kernel) (by decide +kernel)
theorem t_664 : (Jvm.Cond.code ({ cls := "MakerStarts$Tokens", name := "findKeys", desc := "()V" } : Jvm.MethodName) prog_10_method_6_code (3 : Nat) (Option.none : Option Jvm.ClassFile.FieldType)) ∈ TB := inTB 664 (by decide +kernel) (by decide +kernel)
theorem t_665 : (Jvm.Cond.methodLink "MakerStarts$Reader" (35 : Nat) ({ cls := "MakerStarts$Bodies", name := "begin", desc := "(LMakerStarts$Text;)V" } : Jvm.MethodName)) ∈ TB := inTB 665 (by decide +kernel) (by decide +kernel)
theorem t_666 : (Jvm.Cond.instanceMethod ({ cls := "MakerStarts$Bodies", name := "begin", desc := "(LMakerStarts$Text;)V" } : Jvm.MethodName)) ∈ TB := inTB 666 (by decide +kernel) (by decide +kernel)
theorem t_667 : (Jvm.Cond.selects "MakerStarts$Bodies" ({ cls := "MakerStarts$Bodies", name := "begin", desc := "(LMakerStarts$Text;)V" } : Jvm.MethodName) ({ cls := "MakerStarts$Bodies", name := "begin", desc := "(LMakerStarts$Text;)V" } : Jvm.MethodName)) ∈ TB := inTB 667 (by decide +kernel) (by decide +kernel)
theorem t_668 : (Jvm.Cond.code ({ cls := "MakerStarts$Bodies", name := "begin", desc := "(LMakerStarts$Text;)V" } : Jvm.MethodName) prog_2_method_2_code (2 : Nat) (Option.none : Option Jvm.ClassFile.FieldType)) ∈ TB := inTB 668 (by decide +kernel) (by decide +kernel)
theorem t_669 : (Jvm.Cond.methodLink "MakerStarts$Reader" (39 : Nat) ({ cls := "MakerStarts$Tokens", name := "is", desc := "(I)Z" } : Jvm.MethodName)) ∈ TB := inTB 669 (by decide +kernel) (by decide +kernel)
theorem t_670 : (Jvm.Cond.instanceMethod ({ cls := "MakerStarts$Tokens", name := "is", desc := "(I)Z" } : Jvm.MethodName)) ∈ TB := inTB 670 (by decide +kernel) (by decide +kernel)
theorem t_671 : (Jvm.Cond.selects "MakerStarts$Tokens" ({ cls := "MakerStarts$Tokens", name := "is", desc := "(I)Z" } : Jvm.MethodName) ({ cls := "MakerStarts$Tokens", name := "is", desc := "(I)Z" } : Jvm.MethodName)) ∈ TB := inTB 671 (by decide +kernel) (by decide +kernel)
theorem t_672 : (Jvm.Cond.code ({ cls := "MakerStarts$Tokens", name := "is", desc := "(I)Z" } : Jvm.MethodName) prog_10_method_9_code (2 : Nat) (Option.some Jvm.ClassFile.FieldType.boolean)) ∈ TB := inTB 672 (by decide +kernel) (by decide +kernel)
theorem t_1153 : (Jvm.Cond.instanceMethod ({ cls := "java/util/ArrayList", name := "size", desc := "()I" } : Jvm.MethodName)) ∈ TB := inTB 1153 (by decide +kernel) (by decide +kernel)
theorem t_1154 : (Jvm.Cond.selects "java/util/ArrayList" ({ cls := "java/util/ArrayList", name := "size", desc := "()I" } : Jvm.MethodName) ({ cls := "java/util/ArrayList", name := "size", desc := "()I" } : Jvm.MethodName)) ∈ TB := inTB 1154 (by decide +kernel) (by decide +kernel)
theorem t_1155 : (Jvm.Cond.code ({ cls := "java/util/ArrayList", name := "size", desc := "()I" } : Jvm.MethodName) prog_31_method_8_code (1 : Nat) (Option.some Jvm.ClassFile.FieldType.int)) ∈ TB := inTB 1155 (by decide +kernel) (by decide +kernel)
theorem t_1206 : (Jvm.Cond.methodLink "MakerStarts" (60 : Nat) ({ cls := "MakerStarts$Judge", name := "judge", desc := "(LMakerStarts$Text;)V" } : Jvm.MethodName)) ∈ TB := inTB 1206 (by decide +kernel) (by decide +kernel)
theorem t_1207 : (Jvm.Cond.static ({ cls := "MakerStarts$Judge", name := "judge", desc := "(LMakerStarts$Text;)V" } : Jvm.MethodName)) ∈ TB := inTB 1207 (by decide +kernel) (by decide +kernel)
theorem t_1208 : (Jvm.Cond.code ({ cls := "MakerStarts$Judge", name := "judge", desc := "(LMakerStarts$Text;)V" } : Jvm.MethodName) prog_5_method_2_code (4 : Nat) (Option.none : Option Jvm.ClassFile.FieldType)) ∈ TB := inTB 1208 (by decide +kernel) (by decide +kernel)
theorem t_1209 : (Jvm.Cond.methodLink "MakerStarts$Judge" (15 : Nat) ({ cls := "java/util/ArrayList", name := "size", desc := "()I" } : Jvm.MethodName)) ∈ TB := inTB 1209 (by decide +kernel) (by decide +kernel)
theorem t_1276 : (Jvm.Cond.methodLink "MakerStarts" (65 : Nat) ({ cls := "MakerStarts$Flow", name := "judge", desc := "(LMakerStarts$Text;)V" } : Jvm.MethodName)) ∈ TB := inTB 1276 (by decide +kernel) (by decide +kernel)
theorem t_1277 : (Jvm.Cond.instanceMethod ({ cls := "MakerStarts$Flow", name := "judge", desc := "(LMakerStarts$Text;)V" } : Jvm.MethodName)) ∈ TB := inTB 1277 (by decide +kernel) (by decide +kernel)
theorem t_1278 : (Jvm.Cond.selects "MakerStarts$Flow" ({ cls := "MakerStarts$Flow", name := "judge", desc := "(LMakerStarts$Text;)V" } : Jvm.MethodName) ({ cls := "MakerStarts$Flow", name := "judge", desc := "(LMakerStarts$Text;)V" } : Jvm.MethodName)) ∈ TB := inTB 1278 (by decide +kernel) (by decide +kernel)
theorem t_1279 : (Jvm.Cond.code ({ cls := "MakerStarts$Flow", name := "judge", desc := "(LMakerStarts$Text;)V" } : Jvm.MethodName) prog_3_method_2_code (6 : Nat) (Option.none : Option Jvm.ClassFile.FieldType)) ∈ TB := inTB 1279 (by decide +kernel) (by decide +kernel)
theorem t_1306 : (Jvm.Cond.methodLink "MakerStarts$Text" (54 : Nat) ({ cls := "java/util/ArrayList", name := "size", desc := "()I" } : Jvm.MethodName)) ∈ TB := inTB 1306 (by decide +kernel) (by decide +kernel)
theorem t_1315 : (Jvm.Cond.methodLink "MakerStarts" (70 : Nat) ({ cls := "MakerStarts$Text", name := "link", desc := "()V" } : Jvm.MethodName)) ∈ TB := inTB 1315 (by decide +kernel) (by decide +kernel)
theorem t_1316 : (Jvm.Cond.instanceMethod ({ cls := "MakerStarts$Text", name := "link", desc := "()V" } : Jvm.MethodName)) ∈ TB := inTB 1316 (by decide +kernel) (by decide +kernel)
theorem t_1317 : (Jvm.Cond.selects "MakerStarts$Text" ({ cls := "MakerStarts$Text", name := "link", desc := "()V" } : Jvm.MethodName) ({ cls := "MakerStarts$Text", name := "link", desc := "()V" } : Jvm.MethodName)) ∈ TB := inTB 1317 (by decide +kernel) (by decide +kernel)
theorem t_1318 : (Jvm.Cond.code ({ cls := "MakerStarts$Text", name := "link", desc := "()V" } : Jvm.MethodName) prog_9_method_16_code (3 : Nat) (Option.none : Option Jvm.ClassFile.FieldType)) ∈ TB := inTB 1318 (by decide +kernel) (by decide +kernel)
theorem t_1333 : (Jvm.Cond.methodLink "MakerStarts" (73 : Nat) ({ cls := "MakerStarts$Text", name := "order", desc := "()V" } : Jvm.MethodName)) ∈ TB := inTB 1333 (by decide +kernel) (by decide +kernel)
theorem t_1334 : (Jvm.Cond.instanceMethod ({ cls := "MakerStarts$Text", name := "order", desc := "()V" } : Jvm.MethodName)) ∈ TB := inTB 1334 (by decide +kernel) (by decide +kernel)
theorem t_1335 : (Jvm.Cond.selects "MakerStarts$Text" ({ cls := "MakerStarts$Text", name := "order", desc := "()V" } : Jvm.MethodName) ({ cls := "MakerStarts$Text", name := "order", desc := "()V" } : Jvm.MethodName)) ∈ TB := inTB 1335 (by decide +kernel) (by decide +kernel)
theorem t_1336 : (Jvm.Cond.code ({ cls := "MakerStarts$Text", name := "order", desc := "()V" } : Jvm.MethodName) prog_9_method_17_code (4 : Nat) (Option.none : Option Jvm.ClassFile.FieldType)) ∈ TB := inTB 1336 (by decide +kernel) (by decide +kernel)
theorem t_1337 : (Jvm.Cond.methodLink "MakerStarts$Text" (63 : Nat) ({ cls := "MakerStarts$Text", name := "typeAt", desc := "(I)LMakerStarts$Type;" } : Jvm.MethodName)) ∈ TB := inTB 1337 (by decide +kernel) (by decide +kernel)
theorem t_1351 : (Jvm.Cond.methodLink "MakerStarts" (76 : Nat) ({ cls := "MakerStarts$Machine", name := "begin", desc := "(LMakerStarts$Text;)V" } : Jvm.MethodName)) ∈ TB := inTB 1351 (by decide +kernel) (by decide +kernel)
theorem t_1352 : (Jvm.Cond.instanceMethod ({ cls := "MakerStarts$Machine", name := "begin", desc := "(LMakerStarts$Text;)V" } : Jvm.MethodName)) ∈ TB := inTB 1352 (by decide +kernel) (by decide +kernel)
theorem t_1353 : (Jvm.Cond.selects "MakerStarts$Machine" ({ cls := "MakerStarts$Machine", name := "begin", desc := "(LMakerStarts$Text;)V" } : Jvm.MethodName) ({ cls := "MakerStarts$Machine", name := "begin", desc := "(LMakerStarts$Text;)V" } : Jvm.MethodName)) ∈ TB := inTB 1353 (by decide +kernel) (by decide +kernel)
theorem t_1354 : (Jvm.Cond.code ({ cls := "MakerStarts$Machine", name := "begin", desc := "(LMakerStarts$Text;)V" } : Jvm.MethodName) prog_6_method_6_code (4 : Nat) (Option.none : Option Jvm.ClassFile.FieldType)) ∈ TB := inTB 1354 (by decide +kernel) (by decide +kernel)
theorem t_1355 : (Jvm.Cond.methodLink "MakerStarts$Machine" (86 : Nat) ({ cls := "java/util/Arrays", name := "fill", desc := "([II)V" } : Jvm.MethodName)) ∈ TB := inTB 1355 (by decide +kernel) (by decide +kernel)
theorem t_1356 : (Jvm.Cond.static ({ cls := "java/util/Arrays", name := "fill", desc := "([II)V" } : Jvm.MethodName)) ∈ TB := inTB 1356 (by decide +kernel) (by decide +kernel)
theorem t_1357 : (Jvm.Cond.code ({ cls := "java/util/Arrays", name := "fill", desc := "([II)V" } : Jvm.MethodName) prog_32_method_103_code (4 : Nat) (Option.none : Option Jvm.ClassFile.FieldType)) ∈ TB := inTB 1357 (by decide +kernel) (by decide +kernel)
theorem t_1358 : (Jvm.Cond.methodLink "MakerStarts$Machine" (92 : Nat) ({ cls := "MakerStarts$Text", name := "memberAt", desc := "(I)LMakerStarts$Member;" } : Jvm.MethodName)) ∈ TB := inTB 1358 (by decide +kernel) (by decide +kernel)
theorem t_1359 : (Jvm.Cond.instanceMethod ({ cls := "MakerStarts$Text", name := "memberAt", desc := "(I)LMakerStarts$Member;" } : Jvm.MethodName)) ∈ TB := inTB 1359 (by decide +kernel) (by decide +kernel)
theorem t_1360 : (Jvm.Cond.selects "MakerStarts$Text" ({ cls := "MakerStarts$Text", name := "memberAt", desc := "(I)LMakerStarts$Member;" } : Jvm.MethodName) ({ cls := "MakerStarts$Text", name := "memberAt", desc := "(I)LMakerStarts$Member;" } : Jvm.MethodName)) ∈ TB := inTB 1360 (by decide +kernel) (by decide +kernel)
theorem t_1361 : (Jvm.Cond.code ({ cls := "MakerStarts$Text", name := "memberAt", desc := "(I)LMakerStarts$Member;" } : Jvm.MethodName) prog_9_method_8_code (3 : Nat) (Option.some (Jvm.ClassFile.FieldType.object "MakerStarts$Member"))) ∈ TB := inTB 1361 (by decide +kernel) (by decide +kernel)
theorem dX0_begin_0 : decode cX0_begin 0 = .ok (.aload_n 0, 1) := by decide +kernel
theorem dX0_begin_1 : decode cX0_begin 1 = .ok (.aload_n 1, 1) := by decide +kernel
theorem dX0_begin_2 : decode cX0_begin 2 = .ok (.putfield 9, 3) := by decide +kernel
theorem dX0_begin_5 : decode cX0_begin 5 = .ok (.aload_n 0, 1) := by decide +kernel
theorem dX0_begin_6 : decode cX0_begin 6 = .ok (.iconst 0, 1) := by decide +kernel
theorem dX0_begin_7 : decode cX0_begin 7 = .ok (.putfield 27, 3) := by decide +kernel
theorem dX0_begin_10 : decode cX0_begin 10 = .ok (.aload_n 0, 1) := by decide +kernel
theorem dX0_begin_11 : decode cX0_begin 11 = .ok (.iconst 0, 1) := by decide +kernel
theorem dX0_begin_12 : decode cX0_begin 12 = .ok (.putfield 23, 3) := by decide +kernel
theorem dX0_begin_15 : decode cX0_begin 15 = .ok (.return_, 1) := by decide +kernel
theorem dX11_read_0 : decode cX11_read 0 = .ok (.aload_n 0, 1) := by decide +kernel
theorem dX11_read_1 : decode cX11_read 1 = .ok (.getfield 27, 3) := by decide +kernel
theorem dX11_read_4 : decode cX11_read 4 = .ok (.astore_n 1, 1) := by decide +kernel
theorem dX11_read_5 : decode cX11_read 5 = .ok (.aload_n 1, 1) := by decide +kernel
theorem dX11_read_6 : decode cX11_read 6 = .ok (.invokevirtual 53, 3) := by decide +kernel
theorem dX11_read_9 : decode cX11_read 9 = .ok (.aload_n 0, 1) := by decide +kernel
theorem dX11_read_10 : decode cX11_read 10 = .ok (.getfield 33, 3) := by decide +kernel
theorem dX11_read_13 : decode cX11_read 13 = .ok (.aload_n 0, 1) := by decide +kernel
theorem dX11_read_14 : decode cX11_read 14 = .ok (.getfield 9, 3) := by decide +kernel
theorem dX11_read_17 : decode cX11_read 17 = .ok (.aload_n 0, 1) := by decide +kernel
theorem dX11_read_18 : decode cX11_read 18 = .ok (.getfield 13, 3) := by decide +kernel
theorem dX11_read_21 : decode cX11_read 21 = .ok (.aload_n 1, 1) := by decide +kernel
theorem dX11_read_22 : decode cX11_read 22 = .ok (.invokevirtual 56, 3) := by decide +kernel
theorem dX11_read_25 : decode cX11_read 25 = .ok (.ifCond .eq 15, 3) := by decide +kernel
theorem dX11_read_28 : decode cX11_read 28 = .ok (.aload_n 1, 1) := by decide +kernel
theorem dX11_read_29 : decode cX11_read 29 = .ok (.invokestatic 60, 3) := by decide +kernel
theorem dX11_read_32 : decode cX11_read 32 = .ok (.aload_n 0, 1) := by decide +kernel
theorem dX11_read_33 : decode cX11_read 33 = .ok (.getfield 40, 3) := by decide +kernel
theorem dX11_read_36 : decode cX11_read 36 = .ok (.aload_n 1, 1) := by decide +kernel
theorem dX11_read_37 : decode cX11_read 37 = .ok (.invokevirtual 65, 3) := by decide +kernel
theorem dX11_read_40 : decode cX11_read 40 = .ok (.aload_n 0, 1) := by decide +kernel
theorem dX11_read_41 : decode cX11_read 41 = .ok (.iconst 0, 1) := by decide +kernel
theorem dX11_read_42 : decode cX11_read 42 = .ok (.putfield 13, 3) := by decide +kernel
theorem dX11_read_45 : decode cX11_read 45 = .ok (.aload_n 0, 1) := by decide +kernel
theorem dX11_read_46 : decode cX11_read 46 = .ok (.aload_n 1, 1) := by decide +kernel
theorem dX11_read_47 : decode cX11_read 47 = .ok (.getfield 66, 3) := by decide +kernel
theorem dX11_read_50 : decode cX11_read 50 = .ok (.putfield 17, 3) := by decide +kernel
theorem dX11_read_53 : decode cX11_read 53 = .ok (.aload_n 1, 1) := by decide +kernel
theorem dX11_read_54 : decode cX11_read 54 = .ok (.getfield 67, 3) := by decide +kernel
theorem dX11_read_57 : decode cX11_read 57 = .ok (.ifCond .eq 11, 3) := by decide +kernel
theorem dX11_read_68 : decode cX11_read 68 = .ok (.aload_n 0, 1) := by decide +kernel
theorem dX11_read_69 : decode cX11_read 69 = .ok (.aload_n 0, 1) := by decide +kernel
theorem dX11_read_70 : decode cX11_read 70 = .ok (.getfield 23, 3) := by decide +kernel
theorem dX11_read_73 : decode cX11_read 73 = .ok (.putfield 27, 3) := by decide +kernel
theorem dX11_read_76 : decode cX11_read 76 = .ok (.aload_n 0, 1) := by decide +kernel
theorem dX11_read_77 : decode cX11_read 77 = .ok (.aload_n 1, 1) := by decide +kernel
theorem dX11_read_78 : decode cX11_read 78 = .ok (.putfield 23, 3) := by decide +kernel
theorem dX11_read_81 : decode cX11_read 81 = .ok (.aload_n 1, 1) := by decide +kernel
theorem dX11_read_82 : decode cX11_read 82 = .ok (.invokevirtual 70, 3) := by decide +kernel
theorem dX11_read_85 : decode cX11_read 85 = .ok (.aload_n 1, 1) := by decide +kernel
theorem dX11_read_86 : decode cX11_read 86 = .ok (.invokevirtual 73, 3) := by decide +kernel
theorem dX11_read_89 : decode cX11_read 89 = .ok (.aload_n 0, 1) := by decide +kernel
theorem dX11_read_90 : decode cX11_read 90 = .ok (.getfield 49, 3) := by decide +kernel
theorem dX11_read_93 : decode cX11_read 93 = .ok (.aload_n 1, 1) := by decide +kernel
theorem dX11_read_94 : decode cX11_read 94 = .ok (.invokevirtual 76, 3) := by decide +kernel
theorem dX11_read_97 : decode cX11_read 97 = .ok (.aload_n 1, 1) := by decide +kernel
theorem dX11_read_98 : decode cX11_read 98 = .ok (.getfield 79, 3) := by decide +kernel
theorem dX11_read_101 : decode cX11_read 101 = .ok (.ireturn, 1) := by decide +kernel
theorem dX1_judge_0 : decode cX1_judge 0 = .ok (.aload_n 0, 1) := by decide +kernel
theorem dX1_judge_1 : decode cX1_judge 1 = .ok (.aload_n 1, 1) := by decide +kernel
theorem dX1_judge_2 : decode cX1_judge 2 = .ok (.putfield 23, 3) := by decide +kernel
theorem dX1_judge_5 : decode cX1_judge 5 = .ok (.iconst 0, 1) := by decide +kernel
theorem dX1_judge_6 : decode cX1_judge 6 = .ok (.istore_n 2, 1) := by decide +kernel
theorem dX1_judge_7 : decode cX1_judge 7 = .ok (.iload_n 2, 1) := by decide +kernel
theorem dX1_judge_8 : decode cX1_judge 8 = .ok (.aload_n 1, 1) := by decide +kernel
theorem dX1_judge_9 : decode cX1_judge 9 = .ok (.getfield 27, 3) := by decide +kernel
theorem dX1_judge_12 : decode cX1_judge 12 = .ok (.if_icmp .ge 104, 3) := by decide +kernel
theorem dX1_judge_116 : decode cX1_judge 116 = .ok (.return_, 1) := by decide +kernel
theorem dX3_judge_0 : decode cX3_judge 0 = .ok (.iconst 0, 1) := by decide +kernel
theorem dX3_judge_1 : decode cX3_judge 1 = .ok (.istore_n 1, 1) := by decide +kernel
theorem dX3_judge_2 : decode cX3_judge 2 = .ok (.iload_n 1, 1) := by decide +kernel
theorem dX3_judge_3 : decode cX3_judge 3 = .ok (.aload_n 0, 1) := by decide +kernel
theorem dX3_judge_4 : decode cX3_judge 4 = .ok (.getfield 9, 3) := by decide +kernel
theorem dX3_judge_7 : decode cX3_judge 7 = .ok (.invokevirtual 15, 3) := by decide +kernel
theorem dX3_judge_10 : decode cX3_judge 10 = .ok (.if_icmp .ge 24, 3) := by decide +kernel
theorem dX3_judge_34 : decode cX3_judge 34 = .ok (.iconst 0, 1) := by decide +kernel
theorem dX3_judge_35 : decode cX3_judge 35 = .ok (.istore_n 1, 1) := by decide +kernel
theorem dX3_judge_36 : decode cX3_judge 36 = .ok (.iload_n 1, 1) := by decide +kernel
theorem dX3_judge_37 : decode cX3_judge 37 = .ok (.aload_n 0, 1) := by decide +kernel
theorem dX3_judge_38 : decode cX3_judge 38 = .ok (.getfield 33, 3) := by decide +kernel
theorem dX3_judge_41 : decode cX3_judge 41 = .ok (.if_icmp .ge 64, 3) := by decide +kernel
theorem dX3_judge_105 : decode cX3_judge 105 = .ok (.iconst 0, 1) := by decide +kernel
theorem dX3_judge_106 : decode cX3_judge 106 = .ok (.istore_n 1, 1) := by decide +kernel
theorem dX3_judge_107 : decode cX3_judge 107 = .ok (.iload_n 1, 1) := by decide +kernel
theorem dX3_judge_108 : decode cX3_judge 108 = .ok (.aload_n 0, 1) := by decide +kernel
theorem dX3_judge_109 : decode cX3_judge 109 = .ok (.getfield 33, 3) := by decide +kernel
theorem dX3_judge_112 : decode cX3_judge 112 = .ok (.if_icmp .ge 41, 3) := by decide +kernel
theorem dX3_judge_153 : decode cX3_judge 153 = .ok (.return_, 1) := by decide +kernel
theorem dX4_begin_0 : decode cX4_begin 0 = .ok (.aload_n 0, 1) := by decide +kernel
theorem dX4_begin_1 : decode cX4_begin 1 = .ok (.aload_n 1, 1) := by decide +kernel
theorem dX4_begin_2 : decode cX4_begin 2 = .ok (.putfield 76, 3) := by decide +kernel
theorem dX4_begin_5 : decode cX4_begin 5 = .ok (.aload_n 0, 1) := by decide +kernel
theorem dX4_begin_6 : decode cX4_begin 6 = .ok (.getfield 9, 3) := by decide +kernel
theorem dX4_begin_9 : decode cX4_begin 9 = .ok (.iconst 0, 1) := by decide +kernel
theorem dX4_begin_10 : decode cX4_begin 10 = .ok (.invokestatic 86, 3) := by decide +kernel
theorem dX4_begin_13 : decode cX4_begin 13 = .ok (.aload_n 0, 1) := by decide +kernel
theorem dX4_begin_14 : decode cX4_begin 14 = .ok (.getfield 15, 3) := by decide +kernel
theorem dX4_begin_17 : decode cX4_begin 17 = .ok (.iconst 0, 1) := by decide +kernel
theorem dX4_begin_18 : decode cX4_begin 18 = .ok (.invokestatic 86, 3) := by decide +kernel
theorem dX4_begin_21 : decode cX4_begin 21 = .ok (.aload_n 0, 1) := by decide +kernel
theorem dX4_begin_22 : decode cX4_begin 22 = .ok (.iconst 0, 1) := by decide +kernel
theorem dX4_begin_23 : decode cX4_begin 23 = .ok (.putfield 21, 3) := by decide +kernel
theorem dX4_begin_26 : decode cX4_begin 26 = .ok (.aload_n 0, 1) := by decide +kernel
theorem dX4_begin_27 : decode cX4_begin 27 = .ok (.getfield 53, 3) := by decide +kernel
theorem dX4_begin_30 : decode cX4_begin 30 = .ok (.iconst (-1), 1) := by decide +kernel
theorem dX4_begin_31 : decode cX4_begin 31 = .ok (.putfield 80, 3) := by decide +kernel
theorem dX4_begin_34 : decode cX4_begin 34 = .ok (.aload_n 0, 1) := by decide +kernel
theorem dX4_begin_35 : decode cX4_begin 35 = .ok (.iconst 1, 1) := by decide +kernel
theorem dX4_begin_36 : decode cX4_begin 36 = .ok (.putfield 60, 3) := by decide +kernel
theorem dX4_begin_39 : decode cX4_begin 39 = .ok (.iconst 0, 1) := by decide +kernel
theorem dX4_begin_40 : decode cX4_begin 40 = .ok (.istore_n 2, 1) := by decide +kernel
theorem dX4_begin_41 : decode cX4_begin 41 = .ok (.iload_n 2, 1) := by decide +kernel
theorem dX4_begin_42 : decode cX4_begin 42 = .ok (.bipush 64, 2) := by decide +kernel
theorem dX4_begin_44 : decode cX4_begin 44 = .ok (.if_icmp .ge 49, 3) := by decide +kernel
theorem dX4_begin_47 : decode cX4_begin 47 = .ok (.aload_n 1, 1) := by decide +kernel
theorem dX4_begin_48 : decode cX4_begin 48 = .ok (.iload_n 2, 1) := by decide +kernel
theorem dX4_begin_49 : decode cX4_begin 49 = .ok (.invokevirtual 92, 3) := by decide +kernel
theorem dX4_begin_52 : decode cX4_begin 52 = .ok (.astore_n 3, 1) := by decide +kernel
theorem dX4_begin_53 : decode cX4_begin 53 = .ok (.aload_n 3, 1) := by decide +kernel
theorem dX4_begin_54 : decode cX4_begin 54 = .ok (.ifnull 33, 3) := by decide +kernel
theorem dX4_begin_87 : decode cX4_begin 87 = .ok (.iinc 2 1, 3) := by decide +kernel
theorem dX4_begin_90 : decode cX4_begin 90 = .ok (.goto (-49), 3) := by decide +kernel
theorem dX4_begin_93 : decode cX4_begin 93 = .ok (.aload_n 0, 1) := by decide +kernel
theorem dX4_begin_94 : decode cX4_begin 94 = .ok (.iconst 0, 1) := by decide +kernel
theorem dX4_begin_95 : decode cX4_begin 95 = .ok (.putfield 60, 3) := by decide +kernel
theorem dX4_begin_98 : decode cX4_begin 98 = .ok (.return_, 1) := by decide +kernel
theorem dX6_reads_0 : decode cX6_reads 0 = .ok (.aload_n 0, 1) := by decide +kernel
theorem dX6_reads_1 : decode cX6_reads 1 = .ok (.aload_n 3, 1) := by decide +kernel
theorem dX6_reads_2 : decode cX6_reads 2 = .ok (.putfield 27, 3) := by decide +kernel
theorem dX6_reads_5 : decode cX6_reads 5 = .ok (.aload_n 0, 1) := by decide +kernel
theorem dX6_reads_6 : decode cX6_reads 6 = .ok (.getfield 12, 3) := by decide +kernel
theorem dX6_reads_9 : decode cX6_reads 9 = .ok (.aload_n 1, 1) := by decide +kernel
theorem dX6_reads_10 : decode cX6_reads 10 = .ok (.iload_n 2, 1) := by decide +kernel
theorem dX6_reads_11 : decode cX6_reads 11 = .ok (.invokevirtual 31, 3) := by decide +kernel
theorem dX6_reads_14 : decode cX6_reads 14 = .ok (.aload_n 0, 1) := by decide +kernel
theorem dX6_reads_15 : decode cX6_reads 15 = .ok (.getfield 23, 3) := by decide +kernel
theorem dX6_reads_18 : decode cX6_reads 18 = .ok (.aload_n 3, 1) := by decide +kernel
theorem dX6_reads_19 : decode cX6_reads 19 = .ok (.invokevirtual 35, 3) := by decide +kernel
theorem dX6_reads_22 : decode cX6_reads 22 = .ok (.iconst 0, 1) := by decide +kernel
theorem dX6_reads_23 : decode cX6_reads 23 = .ok (.istore 4, 2) := by decide +kernel
theorem dX6_reads_25 : decode cX6_reads 25 = .ok (.iload 4, 2) := by decide +kernel
theorem dX6_reads_27 : decode cX6_reads 27 = .ok (.bipush 8, 2) := by decide +kernel
theorem dX6_reads_29 : decode cX6_reads 29 = .ok (.if_icmp .gt 207, 3) := by decide +kernel
theorem dX6_reads_32 : decode cX6_reads 32 = .ok (.aload_n 0, 1) := by decide +kernel
theorem dX6_reads_33 : decode cX6_reads 33 = .ok (.getfield 12, 3) := by decide +kernel
theorem dX6_reads_36 : decode cX6_reads 36 = .ok (.sipush 256, 3) := by decide +kernel
theorem dX6_reads_39 : decode cX6_reads 39 = .ok (.invokevirtual 39, 3) := by decide +kernel
theorem dX6_reads_42 : decode cX6_reads 42 = .ok (.ifCond .eq 194, 3) := by decide +kernel
theorem dX6_reads_236 : decode cX6_reads 236 = .ok (.aload_n 0, 1) := by decide +kernel
theorem dX6_reads_237 : decode cX6_reads 237 = .ok (.getfield 12, 3) := by decide +kernel
theorem dX6_reads_240 : decode cX6_reads 240 = .ok (.iconst 0, 1) := by decide +kernel
theorem dX6_reads_241 : decode cX6_reads 241 = .ok (.invokevirtual 39, 3) := by decide +kernel
theorem dX6_reads_244 : decode cX6_reads 244 = .ok (.ifCond .ne 33, 3) := by decide +kernel
theorem dX6_reads_277 : decode cX6_reads 277 = .ok (.aload_n 0, 1) := by decide +kernel
theorem dX6_reads_278 : decode cX6_reads 278 = .ok (.getfield 12, 3) := by decide +kernel
theorem dX6_reads_281 : decode cX6_reads 281 = .ok (.getfield 103, 3) := by decide +kernel
theorem dX6_reads_284 : decode cX6_reads 284 = .ok (.ifCond .ne 7, 3) := by decide +kernel
theorem dX6_reads_287 : decode cX6_reads 287 = .ok (.iconst 1, 1) := by decide +kernel
theorem dX6_reads_288 : decode cX6_reads 288 = .ok (.goto 4, 3) := by decide +kernel
theorem dX6_reads_292 : decode cX6_reads 292 = .ok (.ireturn, 1) := by decide +kernel
theorem dX7_clear_0 : decode cX7_clear 0 = .ok (.iconst 0, 1) := by decide +kernel
theorem dX7_clear_1 : decode cX7_clear 1 = .ok (.istore_n 1, 1) := by decide +kernel
theorem dX7_clear_2 : decode cX7_clear 2 = .ok (.iload_n 1, 1) := by decide +kernel
theorem dX7_clear_3 : decode cX7_clear 3 = .ok (.bipush 8, 2) := by decide +kernel
theorem dX7_clear_5 : decode cX7_clear 5 = .ok (.if_icmp .ge 16, 3) := by decide +kernel
theorem dX7_clear_8 : decode cX7_clear 8 = .ok (.aload_n 0, 1) := by decide +kernel
theorem dX7_clear_9 : decode cX7_clear 9 = .ok (.getfield 11, 3) := by decide +kernel
theorem dX7_clear_12 : decode cX7_clear 12 = .ok (.iload_n 1, 1) := by decide +kernel
theorem dX7_clear_13 : decode cX7_clear 13 = .ok (.aconst_null, 1) := by decide +kernel
theorem dX7_clear_14 : decode cX7_clear 14 = .ok (.aastore, 1) := by decide +kernel
theorem dX7_clear_15 : decode cX7_clear 15 = .ok (.iinc 1 1, 3) := by decide +kernel
theorem dX7_clear_18 : decode cX7_clear 18 = .ok (.goto (-16), 3) := by decide +kernel
theorem dX7_clear_21 : decode cX7_clear 21 = .ok (.aload_n 0, 1) := by decide +kernel
theorem dX7_clear_22 : decode cX7_clear 22 = .ok (.iconst 0, 1) := by decide +kernel
theorem dX7_clear_23 : decode cX7_clear 23 = .ok (.putfield 31, 3) := by decide +kernel
theorem dX7_clear_26 : decode cX7_clear 26 = .ok (.aload_n 0, 1) := by decide +kernel
theorem dX7_clear_27 : decode cX7_clear 27 = .ok (.getfield 20, 3) := by decide +kernel
theorem dX7_clear_30 : decode cX7_clear 30 = .ok (.invokevirtual 35, 3) := by decide +kernel
theorem dX7_clear_33 : decode cX7_clear 33 = .ok (.aload_n 0, 1) := by decide +kernel
theorem dX7_clear_34 : decode cX7_clear 34 = .ok (.iconst 0, 1) := by decide +kernel
theorem dX7_clear_35 : decode cX7_clear 35 = .ok (.putfield 38, 3) := by decide +kernel
theorem dX7_clear_38 : decode cX7_clear 38 = .ok (.aload_n 0, 1) := by decide +kernel
theorem dX7_clear_39 : decode cX7_clear 39 = .ok (.iconst 0, 1) := by decide +kernel
theorem dX7_clear_40 : decode cX7_clear 40 = .ok (.putfield 41, 3) := by decide +kernel
theorem dX7_clear_43 : decode cX7_clear 43 = .ok (.aload_n 0, 1) := by decide +kernel
theorem dX7_clear_44 : decode cX7_clear 44 = .ok (.iconst 0, 1) := by decide +kernel
theorem dX7_clear_45 : decode cX7_clear 45 = .ok (.putfield 44, 3) := by decide +kernel
theorem dX7_clear_48 : decode cX7_clear 48 = .ok (.aload_n 0, 1) := by decide +kernel
theorem dX7_clear_49 : decode cX7_clear 49 = .ok (.iconst (-1), 1) := by decide +kernel
theorem dX7_clear_50 : decode cX7_clear 50 = .ok (.putfield 47, 3) := by decide +kernel
theorem dX7_clear_53 : decode cX7_clear 53 = .ok (.return_, 1) := by decide +kernel
theorem dX7_link_0 : decode cX7_link 0 = .ok (.iconst 0, 1) := by decide +kernel
theorem dX7_link_1 : decode cX7_link 1 = .ok (.istore_n 1, 1) := by decide +kernel
theorem dX7_link_2 : decode cX7_link 2 = .ok (.iload_n 1, 1) := by decide +kernel
theorem dX7_link_3 : decode cX7_link 3 = .ok (.aload_n 0, 1) := by decide +kernel
theorem dX7_link_4 : decode cX7_link 4 = .ok (.getfield 20, 3) := by decide +kernel
theorem dX7_link_7 : decode cX7_link 7 = .ok (.invokevirtual 54, 3) := by decide +kernel
theorem dX7_link_10 : decode cX7_link 10 = .ok (.if_icmp .ge 47, 3) := by decide +kernel
theorem dX7_link_57 : decode cX7_link 57 = .ok (.return_, 1) := by decide +kernel
theorem dX7_memberAt_0 : decode cX7_memberAt 0 = .ok (.iload_n 1, 1) := by decide +kernel
theorem dX7_memberAt_1 : decode cX7_memberAt 1 = .ok (.ifCond .ge 7, 3) := by decide +kernel
theorem dX7_memberAt_8 : decode cX7_memberAt 8 = .ok (.aload_n 0, 1) := by decide +kernel
theorem dX7_memberAt_9 : decode cX7_memberAt 9 = .ok (.iload_n 1, 1) := by decide +kernel
theorem dX7_memberAt_10 : decode cX7_memberAt 10 = .ok (.bipush 8, 2) := by decide +kernel
theorem dX7_memberAt_12 : decode cX7_memberAt 12 = .ok (.idiv, 1) := by decide +kernel
theorem dX7_memberAt_13 : decode cX7_memberAt 13 = .ok (.invokevirtual 63, 3) := by decide +kernel
theorem dX7_memberAt_16 : decode cX7_memberAt 16 = .ok (.astore_n 2, 1) := by decide +kernel
theorem dX7_memberAt_17 : decode cX7_memberAt 17 = .ok (.aload_n 2, 1) := by decide +kernel
theorem dX7_memberAt_18 : decode cX7_memberAt 18 = .ok (.ifnonnull 7, 3) := by decide +kernel
theorem dX7_memberAt_21 : decode cX7_memberAt 21 = .ok (.aconst_null, 1) := by decide +kernel
theorem dX7_memberAt_22 : decode cX7_memberAt 22 = .ok (.goto 11, 3) := by decide +kernel
theorem dX7_memberAt_33 : decode cX7_memberAt 33 = .ok (.areturn, 1) := by decide +kernel
theorem dX7_order_0 : decode cX7_order 0 = .ok (.iconst 0, 1) := by decide +kernel
theorem dX7_order_1 : decode cX7_order 1 = .ok (.istore_n 1, 1) := by decide +kernel
theorem dX7_order_2 : decode cX7_order 2 = .ok (.iload_n 1, 1) := by decide +kernel
theorem dX7_order_3 : decode cX7_order 3 = .ok (.aload_n 0, 1) := by decide +kernel
theorem dX7_order_4 : decode cX7_order 4 = .ok (.getfield 31, 3) := by decide +kernel
theorem dX7_order_7 : decode cX7_order 7 = .ok (.if_icmp .ge 110, 3) := by decide +kernel
theorem dX7_order_117 : decode cX7_order 117 = .ok (.return_, 1) := by decide +kernel
theorem dX8_findKeys_0 : decode cX8_findKeys 0 = .ok (.iconst 0, 1) := by decide +kernel
theorem dX8_findKeys_1 : decode cX8_findKeys 1 = .ok (.istore_n 1, 1) := by decide +kernel
theorem dX8_findKeys_2 : decode cX8_findKeys 2 = .ok (.iload_n 1, 1) := by decide +kernel
theorem dX8_findKeys_3 : decode cX8_findKeys 3 = .ok (.aload_n 0, 1) := by decide +kernel
theorem dX8_findKeys_4 : decode cX8_findKeys 4 = .ok (.getfield 37, 3) := by decide +kernel
theorem dX8_findKeys_7 : decode cX8_findKeys 7 = .ok (.if_icmp .ge 60, 3) := by decide +kernel
theorem dX8_findKeys_67 : decode cX8_findKeys 67 = .ok (.return_, 1) := by decide +kernel
theorem dX8_is_0 : decode cX8_is 0 = .ok (.aload_n 0, 1) := by decide +kernel
theorem dX8_is_1 : decode cX8_is 1 = .ok (.getfield 46, 3) := by decide +kernel
theorem dX8_is_4 : decode cX8_is 4 = .ok (.ifCond .ne 20, 3) := by decide +kernel
theorem dX8_is_7 : decode cX8_is 7 = .ok (.aload_n 0, 1) := by decide +kernel
theorem dX8_is_8 : decode cX8_is 8 = .ok (.getfield 9, 3) := by decide +kernel
theorem dX8_is_11 : decode cX8_is 11 = .ok (.aload_n 0, 1) := by decide +kernel
theorem dX8_is_12 : decode cX8_is 12 = .ok (.getfield 43, 3) := by decide +kernel
theorem dX8_is_15 : decode cX8_is 15 = .ok (.iaload, 1) := by decide +kernel
theorem dX8_is_16 : decode cX8_is 16 = .ok (.iload_n 1, 1) := by decide +kernel
theorem dX8_is_17 : decode cX8_is 17 = .ok (.if_icmp .ne 7, 3) := by decide +kernel
theorem dX8_is_20 : decode cX8_is 20 = .ok (.iconst 1, 1) := by decide +kernel
theorem dX8_is_21 : decode cX8_is 21 = .ok (.goto 4, 3) := by decide +kernel
theorem dX8_is_24 : decode cX8_is 24 = .ok (.iconst 0, 1) := by decide +kernel
theorem dX8_is_25 : decode cX8_is 25 = .ok (.ireturn, 1) := by decide +kernel
theorem dX8_scan_0 : decode cX8_scan 0 = .ok (.aload_n 0, 1) := by decide +kernel
theorem dX8_scan_1 : decode cX8_scan 1 = .ok (.iconst 0, 1) := by decide +kernel
theorem dX8_scan_2 : decode cX8_scan 2 = .ok (.putfield 37, 3) := by decide +kernel
theorem dX8_scan_5 : decode cX8_scan 5 = .ok (.aload_n 0, 1) := by decide +kernel
theorem dX8_scan_6 : decode cX8_scan 6 = .ok (.iconst 0, 1) := by decide +kernel
theorem dX8_scan_7 : decode cX8_scan 7 = .ok (.putfield 41, 3) := by decide +kernel
theorem dX8_scan_10 : decode cX8_scan 10 = .ok (.aload_n 0, 1) := by decide +kernel
theorem dX8_scan_11 : decode cX8_scan 11 = .ok (.iconst 0, 1) := by decide +kernel
theorem dX8_scan_12 : decode cX8_scan 12 = .ok (.putfield 43, 3) := by decide +kernel
theorem dX8_scan_15 : decode cX8_scan 15 = .ok (.aload_n 0, 1) := by decide +kernel
theorem dX8_scan_16 : decode cX8_scan 16 = .ok (.iconst 0, 1) := by decide +kernel
theorem dX8_scan_17 : decode cX8_scan 17 = .ok (.putfield 46, 3) := by decide +kernel
theorem dX8_scan_20 : decode cX8_scan 20 = .ok (.aload_n 0, 1) := by decide +kernel
theorem dX8_scan_21 : decode cX8_scan 21 = .ok (.iconst (-1), 1) := by decide +kernel
theorem dX8_scan_22 : decode cX8_scan 22 = .ok (.putfield 49, 3) := by decide +kernel
theorem dX8_scan_25 : decode cX8_scan 25 = .ok (.iconst 0, 1) := by decide +kernel
theorem dX8_scan_26 : decode cX8_scan 26 = .ok (.istore_n 3, 1) := by decide +kernel
theorem dX8_scan_27 : decode cX8_scan 27 = .ok (.iload_n 3, 1) := by decide +kernel
theorem dX8_scan_28 : decode cX8_scan 28 = .ok (.iload_n 2, 1) := by decide +kernel
theorem dX8_scan_29 : decode cX8_scan 29 = .ok (.if_icmp .ge 78, 3) := by decide +kernel
theorem dX8_scan_107 : decode cX8_scan 107 = .ok (.aload_n 0, 1) := by decide +kernel
theorem dX8_scan_108 : decode cX8_scan 108 = .ok (.getfield 9, 3) := by decide +kernel
theorem dX8_scan_111 : decode cX8_scan 111 = .ok (.aload_n 0, 1) := by decide +kernel
theorem dX8_scan_112 : decode cX8_scan 112 = .ok (.getfield 37, 3) := by decide +kernel
theorem dX8_scan_115 : decode cX8_scan 115 = .ok (.iconst 0, 1) := by decide +kernel
theorem dX8_scan_116 : decode cX8_scan 116 = .ok (.iastore, 1) := by decide +kernel
theorem dX8_scan_117 : decode cX8_scan 117 = .ok (.aload_n 0, 1) := by decide +kernel
theorem dX8_scan_118 : decode cX8_scan 118 = .ok (.getfield 15, 3) := by decide +kernel
theorem dX8_scan_121 : decode cX8_scan 121 = .ok (.aload_n 0, 1) := by decide +kernel
theorem dX8_scan_122 : decode cX8_scan 122 = .ok (.getfield 37, 3) := by decide +kernel
theorem dX8_scan_125 : decode cX8_scan 125 = .ok (.iload_n 2, 1) := by decide +kernel
theorem dX8_scan_126 : decode cX8_scan 126 = .ok (.iastore, 1) := by decide +kernel
theorem dX8_scan_127 : decode cX8_scan 127 = .ok (.aload_n 0, 1) := by decide +kernel
theorem dX8_scan_128 : decode cX8_scan 128 = .ok (.invokevirtual 64, 3) := by decide +kernel
theorem dX8_scan_131 : decode cX8_scan 131 = .ok (.return_, 1) := by decide +kernel
set_option maxHeartbeats 4000000 in
set_option maxRecDepth 100000 in
theorem c_clear (l : Launch) (D : va_G) (cy : Nat → ClassId) (sz : Nat) (h0 : Nat) (a1 : Nat) (a2 : Nat) (a3 : Nat) (a4 : Nat) (tE : Nat) : Met l yX7_clear (.code yX7_clear cX7_clear 2 none :: TB) ({ frames := 1, cells := 0, slots := 0, locals := 23 }) (va_Pc [.ref h0] (fun U => U.heap.size = sz ∧ va_P D vwCl [(h0, .inr (7, [.ref a1, .int 0, .ref a2, .ref a3, .int 0, .ref a4, .int 0, .int 0, .int 0])), (a1, .inl (cy 4, 8, .inr (.inr (.inr (.inr (fun _ => none)))))), (a2, .inr (0, [.int 0, .ref tE, .int 0]))] U.heap ∧ va_K D vwCl (TY cy) U ∧ va_D (fun _ => True) [(h0, .inr (7, [.ref a1, .int 0, .ref a2, .ref a3, .int 0, .ref a4, .int 0, .int 0, .int 0])), (a1, .inl (cy 4, 8, .inr (.inr (.inr (.inr (fun _ => none)))))), (a2, .inr (0, [.int 0, .ref tE, .int 0]))])) (va_Qv (fun (u : Unit) => True) (fun (u : Unit) t => va_P D vwCl [(h0, .inr (7, [.ref a1, .int 0, .ref a2, .ref a3, .int 0, .ref a4, .int 0, .int 0, .int (-1)])), (a2, .inr (0, [.int 1, .ref tE, .int 0]))] t.heap ∧ va_D (va_A [(h0, .inr (7, [.ref a1, .int 0, .ref a2, .ref a3, .int 0, .ref a4, .int 0, .int 0, .int 0])), (a1, .inl (cy 4, 8, .inr (.inr (.inr (.inr (fun _ => none)))))), (a2, .inr (0, [.int 0, .ref tE, .int 0]))] sz) [(h0, .inr (7, [.ref a1, .int 0, .ref a2, .ref a3, .int 0, .ref a4, .int 0, .int 0, .int (-1)])), (a2, .inr (0, [.int 1, .ref tE, .int 0]))]) (va_A [(h0, .inr (7, [.ref a1, .int 0, .ref a2, .ref a3, .int 0, .ref a4, .int 0, .int 0, .int 0])), (a1, .inl (cy 4, 8, .inr (.inr (.inr (.inr (fun _ => none)))))), (a2, .inr (0, [.int 0, .ref tE, .int 0]))] sz)) 0 0 (va_A [(h0, .inr (7, [.ref a1, .int 0, .ref a2, .ref a3, .int 0, .ref a4, .int 0, .int 0, .int 0])), (a1, .inl (cy 4, 8, .inr (.inr (.inr (.inr (fun _ => none)))))), (a2, .inr (0, [.int 0, .ref tE, .int 0]))] sz) := by
  refine Met.ofW (cc := cX7_clear) (maxL := 2) (ret := none) (by decide) rfl ?_
  intro p e s m args below meth c s₁ B hml hv
  obtain ⟨rfl, hsz, hP, hK, hD0⟩ := hv
  have hx := B.exec
  have hb := B.bytes
  have hr := B.returns
  have hts := atoms_spec (ws := .code yX7_clear cX7_clear 2 none :: TB) B.pre
  have hT : ∀ w ∈ TB, w.before _ s = true := fun w h => hts w (List.mem_cons_of_mem _ h)
  have hown : s.vm.findClass "MakerStarts$Text" = some m.cls := findClass_of_methodNamed B.named
  have hlocks := B.notSynchronized
  subst hsz
  have hD := hD0.self (sz := s.heap.size)
  generalize hAe : va_A [(h0, .inr (7, [.ref a1, .int 0, .ref a2, .ref a3, .int 0, .ref a4, .int 0, .int 0, .int 0])), (a1, .inl (cy 4, 8, .inr (.inr (.inr (.inr (fun _ => none)))))), (a2, .inr (0, [.int 0, .ref tE, .int 0]))] s.heap.size = A at hD  ⊢
  have hA : ∀ q : Nat, s.heap.size ≤ q → A q := fun q h => by rw [← hAe]; exact Or.inr h
  have hS : va_S A s.heap s.heap [] := va_S.rf
  have hP : va_P D vwCl [(h0, .inr (7, [.ref a1, .int 0, .ref a2, .ref a3, .int 0, .ref a4, .int 0, .int 0, .int 0])), (a1, .inl (cy 4, 8, .inr (.inr (.inr (.inr (fun _ => none)))))), (a2, .inr (0, [.int 0, .ref tE, .int 0]))] s.heap := hP
  have hl := lv_entry ([.ref h0]) (n := 2) (Nat.le_of_ble_eq_true rfl)
  rw [lg_entry_eq]
  generalize (lg_sl ([.ref h0]) ++ List.replicate (2 - (lg_sl ([.ref h0])).length) Slot.unset).toArray = ls at hl ⊢
  have hl : lv_has ls 2 [(0, .ref h0)] := hl
  refine lv_iconst (v := 0) hx hb dX7_clear_0 (by decide) ?_
  refine lv_istore_n (lv' := [(1, .int 0), (0, .ref h0)]) hx hb dX7_clear_1 rfl hl (by decide) rfl (fun ls hl => ?_)
  refine lv_iload_n hx hb dX7_clear_2 rfl (lv_at hl 0 rfl) ?_
  refine lv_bipush (v := 8) hx hb dX7_clear_3 (by decide) ?_
  refine lv_icmp_ge (tgt := 21) hx hb dX7_clear_5 (by decide) (fun c9 => absurd c9 (by decide)) (fun _ => ?_)
  refine lv_aload_n hx hb dX7_clear_8 rfl (lv_at hl 1 rfl) ?_
  refine va_get (D := D) (ci := 7) (v := .ref a1) (C := RX7) (T := TX7) (N := 9) hx hb hT i_TX7 hown hK hP 0 rfl rfl 0 (by decide) (hT _ t_212) (fun _ h9 => h9) rfl dX7_clear_9 ?_
  refine lv_iload_n hx hb dX7_clear_12 rfl (lv_at hl 0 rfl) ?_
  refine lv_null hx hb dX7_clear_13 ?_
  refine va_astqN hx hb hK hP hD hS 1 4 rfl rfl (vp_in_iff.mpr (by decide)) dX7_clear_14 (fun H locs hP hD hS => ?_)
  have hP : va_P D vwCl [(h0, .inr (7, [.ref a1, .int 0, .ref a2, .ref a3, .int 0, .ref a4, .int 0, .int 0, .int 0])), (a1, .inl (cy 4, 8, .inr (.inr (.inr (.inr (va_up (fun _ => none) (0 : Int32).toNatClampNeg none)))))), (a2, .inr (0, [.int 0, .ref tE, .int 0]))] H := hP
  have hD : va_D A [(h0, .inr (7, [.ref a1, .int 0, .ref a2, .ref a3, .int 0, .ref a4, .int 0, .int 0, .int 0])), (a1, .inl (cy 4, 8, .inr (.inr (.inr (.inr (va_up (fun _ => none) (0 : Int32).toNatClampNeg none)))))), (a2, .inr (0, [.int 0, .ref tE, .int 0]))] := hD
  generalize hff1 : (va_up (fun _ => none) (0 : Int32).toNatClampNeg none) = f1 at hP hD
  refine lv_iinc (v := 1) (lv' := [(1, .int 1), (0, .ref h0)]) hx hb dX7_clear_15 hl (k := 0) rfl (by decide) (by decide) rfl (fun ls hl => ?_)
  refine lv_goto (tgt := 2) hx hb dX7_clear_18 (by decide) ?_
  refine lv_iload_n hx hb dX7_clear_2 rfl (lv_at hl 0 rfl) ?_
  refine lv_bipush (v := 8) hx hb dX7_clear_3 (by decide) ?_
  refine lv_icmp_ge (tgt := 21) hx hb dX7_clear_5 (by decide) (fun c9 => absurd c9 (by decide)) (fun _ => ?_)
  refine lv_aload_n hx hb dX7_clear_8 rfl (lv_at hl 1 rfl) ?_
  refine va_get (D := D) (ci := 7) (v := .ref a1) (C := RX7) (T := TX7) (N := 9) hx hb hT i_TX7 hown hK hP 0 rfl rfl 0 (by decide) (hT _ t_212) (fun _ h9 => h9) rfl dX7_clear_9 ?_
  refine lv_iload_n hx hb dX7_clear_12 rfl (lv_at hl 0 rfl) ?_
  refine lv_null hx hb dX7_clear_13 ?_
  refine va_astqN hx hb hK hP hD hS 1 4 rfl rfl (vp_in_iff.mpr (by decide)) dX7_clear_14 (fun H locs hP hD hS => ?_)
  have hP : va_P D vwCl [(h0, .inr (7, [.ref a1, .int 0, .ref a2, .ref a3, .int 0, .ref a4, .int 0, .int 0, .int 0])), (a1, .inl (cy 4, 8, .inr (.inr (.inr (.inr (va_up f1 (1 : Int32).toNatClampNeg none)))))), (a2, .inr (0, [.int 0, .ref tE, .int 0]))] H := hP
  have hD : va_D A [(h0, .inr (7, [.ref a1, .int 0, .ref a2, .ref a3, .int 0, .ref a4, .int 0, .int 0, .int 0])), (a1, .inl (cy 4, 8, .inr (.inr (.inr (.inr (va_up f1 (1 : Int32).toNatClampNeg none)))))), (a2, .inr (0, [.int 0, .ref tE, .int 0]))] := hD
  generalize hff2 : (va_up f1 (1 : Int32).toNatClampNeg none) = f2 at hP hD
  refine lv_iinc (v := 2) (lv' := [(1, .int 2), (0, .ref h0)]) hx hb dX7_clear_15 hl (k := 0) rfl (by decide) (by decide) rfl (fun ls hl => ?_)
  refine lv_goto (tgt := 2) hx hb dX7_clear_18 (by decide) ?_
  refine lv_iload_n hx hb dX7_clear_2 rfl (lv_at hl 0 rfl) ?_
  refine lv_bipush (v := 8) hx hb dX7_clear_3 (by decide) ?_
  refine lv_icmp_ge (tgt := 21) hx hb dX7_clear_5 (by decide) (fun c9 => absurd c9 (by decide)) (fun _ => ?_)
  refine lv_aload_n hx hb dX7_clear_8 rfl (lv_at hl 1 rfl) ?_
  refine va_get (D := D) (ci := 7) (v := .ref a1) (C := RX7) (T := TX7) (N := 9) hx hb hT i_TX7 hown hK hP 0 rfl rfl 0 (by decide) (hT _ t_212) (fun _ h9 => h9) rfl dX7_clear_9 ?_
  refine lv_iload_n hx hb dX7_clear_12 rfl (lv_at hl 0 rfl) ?_
  refine lv_null hx hb dX7_clear_13 ?_
  refine va_astqN hx hb hK hP hD hS 1 4 rfl rfl (vp_in_iff.mpr (by decide)) dX7_clear_14 (fun H locs hP hD hS => ?_)
  have hP : va_P D vwCl [(h0, .inr (7, [.ref a1, .int 0, .ref a2, .ref a3, .int 0, .ref a4, .int 0, .int 0, .int 0])), (a1, .inl (cy 4, 8, .inr (.inr (.inr (.inr (va_up f2 (2 : Int32).toNatClampNeg none)))))), (a2, .inr (0, [.int 0, .ref tE, .int 0]))] H := hP
  have hD : va_D A [(h0, .inr (7, [.ref a1, .int 0, .ref a2, .ref a3, .int 0, .ref a4, .int 0, .int 0, .int 0])), (a1, .inl (cy 4, 8, .inr (.inr (.inr (.inr (va_up f2 (2 : Int32).toNatClampNeg none)))))), (a2, .inr (0, [.int 0, .ref tE, .int 0]))] := hD
  generalize hff3 : (va_up f2 (2 : Int32).toNatClampNeg none) = f3 at hP hD
  refine lv_iinc (v := 3) (lv' := [(1, .int 3), (0, .ref h0)]) hx hb dX7_clear_15 hl (k := 0) rfl (by decide) (by decide) rfl (fun ls hl => ?_)
  refine lv_goto (tgt := 2) hx hb dX7_clear_18 (by decide) ?_
  refine lv_iload_n hx hb dX7_clear_2 rfl (lv_at hl 0 rfl) ?_
  refine lv_bipush (v := 8) hx hb dX7_clear_3 (by decide) ?_
  refine lv_icmp_ge (tgt := 21) hx hb dX7_clear_5 (by decide) (fun c9 => absurd c9 (by decide)) (fun _ => ?_)
  refine lv_aload_n hx hb dX7_clear_8 rfl (lv_at hl 1 rfl) ?_
  refine va_get (D := D) (ci := 7) (v := .ref a1) (C := RX7) (T := TX7) (N := 9) hx hb hT i_TX7 hown hK hP 0 rfl rfl 0 (by decide) (hT _ t_212) (fun _ h9 => h9) rfl dX7_clear_9 ?_
  refine lv_iload_n hx hb dX7_clear_12 rfl (lv_at hl 0 rfl) ?_
  refine lv_null hx hb dX7_clear_13 ?_
  refine va_astqN hx hb hK hP hD hS 1 4 rfl rfl (vp_in_iff.mpr (by decide)) dX7_clear_14 (fun H locs hP hD hS => ?_)
  have hP : va_P D vwCl [(h0, .inr (7, [.ref a1, .int 0, .ref a2, .ref a3, .int 0, .ref a4, .int 0, .int 0, .int 0])), (a1, .inl (cy 4, 8, .inr (.inr (.inr (.inr (va_up f3 (3 : Int32).toNatClampNeg none)))))), (a2, .inr (0, [.int 0, .ref tE, .int 0]))] H := hP
  have hD : va_D A [(h0, .inr (7, [.ref a1, .int 0, .ref a2, .ref a3, .int 0, .ref a4, .int 0, .int 0, .int 0])), (a1, .inl (cy 4, 8, .inr (.inr (.inr (.inr (va_up f3 (3 : Int32).toNatClampNeg none)))))), (a2, .inr (0, [.int 0, .ref tE, .int 0]))] := hD
  generalize hff4 : (va_up f3 (3 : Int32).toNatClampNeg none) = f4 at hP hD
  refine lv_iinc (v := 4) (lv' := [(1, .int 4), (0, .ref h0)]) hx hb dX7_clear_15 hl (k := 0) rfl (by decide) (by decide) rfl (fun ls hl => ?_)
  refine lv_goto (tgt := 2) hx hb dX7_clear_18 (by decide) ?_
  refine lv_iload_n hx hb dX7_clear_2 rfl (lv_at hl 0 rfl) ?_
  refine lv_bipush (v := 8) hx hb dX7_clear_3 (by decide) ?_
  refine lv_icmp_ge (tgt := 21) hx hb dX7_clear_5 (by decide) (fun c9 => absurd c9 (by decide)) (fun _ => ?_)
  refine lv_aload_n hx hb dX7_clear_8 rfl (lv_at hl 1 rfl) ?_
  refine va_get (D := D) (ci := 7) (v := .ref a1) (C := RX7) (T := TX7) (N := 9) hx hb hT i_TX7 hown hK hP 0 rfl rfl 0 (by decide) (hT _ t_212) (fun _ h9 => h9) rfl dX7_clear_9 ?_
  refine lv_iload_n hx hb dX7_clear_12 rfl (lv_at hl 0 rfl) ?_
  refine lv_null hx hb dX7_clear_13 ?_
  refine va_astqN hx hb hK hP hD hS 1 4 rfl rfl (vp_in_iff.mpr (by decide)) dX7_clear_14 (fun H locs hP hD hS => ?_)
  have hP : va_P D vwCl [(h0, .inr (7, [.ref a1, .int 0, .ref a2, .ref a3, .int 0, .ref a4, .int 0, .int 0, .int 0])), (a1, .inl (cy 4, 8, .inr (.inr (.inr (.inr (va_up f4 (4 : Int32).toNatClampNeg none)))))), (a2, .inr (0, [.int 0, .ref tE, .int 0]))] H := hP
  have hD : va_D A [(h0, .inr (7, [.ref a1, .int 0, .ref a2, .ref a3, .int 0, .ref a4, .int 0, .int 0, .int 0])), (a1, .inl (cy 4, 8, .inr (.inr (.inr (.inr (va_up f4 (4 : Int32).toNatClampNeg none)))))), (a2, .inr (0, [.int 0, .ref tE, .int 0]))] := hD
  generalize hff5 : (va_up f4 (4 : Int32).toNatClampNeg none) = f5 at hP hD
  refine lv_iinc (v := 5) (lv' := [(1, .int 5), (0, .ref h0)]) hx hb dX7_clear_15 hl (k := 0) rfl (by decide) (by decide) rfl (fun ls hl => ?_)
  refine lv_goto (tgt := 2) hx hb dX7_clear_18 (by decide) ?_
  refine lv_iload_n hx hb dX7_clear_2 rfl (lv_at hl 0 rfl) ?_
  refine lv_bipush (v := 8) hx hb dX7_clear_3 (by decide) ?_
  refine lv_icmp_ge (tgt := 21) hx hb dX7_clear_5 (by decide) (fun c9 => absurd c9 (by decide)) (fun _ => ?_)
  refine lv_aload_n hx hb dX7_clear_8 rfl (lv_at hl 1 rfl) ?_
  refine va_get (D := D) (ci := 7) (v := .ref a1) (C := RX7) (T := TX7) (N := 9) hx hb hT i_TX7 hown hK hP 0 rfl rfl 0 (by decide) (hT _ t_212) (fun _ h9 => h9) rfl dX7_clear_9 ?_
  refine lv_iload_n hx hb dX7_clear_12 rfl (lv_at hl 0 rfl) ?_
  refine lv_null hx hb dX7_clear_13 ?_
  refine va_astqN hx hb hK hP hD hS 1 4 rfl rfl (vp_in_iff.mpr (by decide)) dX7_clear_14 (fun H locs hP hD hS => ?_)
  have hP : va_P D vwCl [(h0, .inr (7, [.ref a1, .int 0, .ref a2, .ref a3, .int 0, .ref a4, .int 0, .int 0, .int 0])), (a1, .inl (cy 4, 8, .inr (.inr (.inr (.inr (va_up f5 (5 : Int32).toNatClampNeg none)))))), (a2, .inr (0, [.int 0, .ref tE, .int 0]))] H := hP
  have hD : va_D A [(h0, .inr (7, [.ref a1, .int 0, .ref a2, .ref a3, .int 0, .ref a4, .int 0, .int 0, .int 0])), (a1, .inl (cy 4, 8, .inr (.inr (.inr (.inr (va_up f5 (5 : Int32).toNatClampNeg none)))))), (a2, .inr (0, [.int 0, .ref tE, .int 0]))] := hD
  generalize hff6 : (va_up f5 (5 : Int32).toNatClampNeg none) = f6 at hP hD
  refine lv_iinc (v := 6) (lv' := [(1, .int 6), (0, .ref h0)]) hx hb dX7_clear_15 hl (k := 0) rfl (by decide) (by decide) rfl (fun ls hl => ?_)
  refine lv_goto (tgt := 2) hx hb dX7_clear_18 (by decide) ?_
  refine lv_iload_n hx hb dX7_clear_2 rfl (lv_at hl 0 rfl) ?_
  refine lv_bipush (v := 8) hx hb dX7_clear_3 (by decide) ?_
  refine lv_icmp_ge (tgt := 21) hx hb dX7_clear_5 (by decide) (fun c9 => absurd c9 (by decide)) (fun _ => ?_)
  refine lv_aload_n hx hb dX7_clear_8 rfl (lv_at hl 1 rfl) ?_
  refine va_get (D := D) (ci := 7) (v := .ref a1) (C := RX7) (T := TX7) (N := 9) hx hb hT i_TX7 hown hK hP 0 rfl rfl 0 (by decide) (hT _ t_212) (fun _ h9 => h9) rfl dX7_clear_9 ?_
  refine lv_iload_n hx hb dX7_clear_12 rfl (lv_at hl 0 rfl) ?_
  refine lv_null hx hb dX7_clear_13 ?_
  refine va_astqN hx hb hK hP hD hS 1 4 rfl rfl (vp_in_iff.mpr (by decide)) dX7_clear_14 (fun H locs hP hD hS => ?_)
  have hP : va_P D vwCl [(h0, .inr (7, [.ref a1, .int 0, .ref a2, .ref a3, .int 0, .ref a4, .int 0, .int 0, .int 0])), (a1, .inl (cy 4, 8, .inr (.inr (.inr (.inr (va_up f6 (6 : Int32).toNatClampNeg none)))))), (a2, .inr (0, [.int 0, .ref tE, .int 0]))] H := hP
  have hD : va_D A [(h0, .inr (7, [.ref a1, .int 0, .ref a2, .ref a3, .int 0, .ref a4, .int 0, .int 0, .int 0])), (a1, .inl (cy 4, 8, .inr (.inr (.inr (.inr (va_up f6 (6 : Int32).toNatClampNeg none)))))), (a2, .inr (0, [.int 0, .ref tE, .int 0]))] := hD
  generalize hff7 : (va_up f6 (6 : Int32).toNatClampNeg none) = f7 at hP hD
  refine lv_iinc (v := 7) (lv' := [(1, .int 7), (0, .ref h0)]) hx hb dX7_clear_15 hl (k := 0) rfl (by decide) (by decide) rfl (fun ls hl => ?_)
  refine lv_goto (tgt := 2) hx hb dX7_clear_18 (by decide) ?_
  refine lv_iload_n hx hb dX7_clear_2 rfl (lv_at hl 0 rfl) ?_
  refine lv_bipush (v := 8) hx hb dX7_clear_3 (by decide) ?_
  refine lv_icmp_ge (tgt := 21) hx hb dX7_clear_5 (by decide) (fun c9 => absurd c9 (by decide)) (fun _ => ?_)
  refine lv_aload_n hx hb dX7_clear_8 rfl (lv_at hl 1 rfl) ?_
  refine va_get (D := D) (ci := 7) (v := .ref a1) (C := RX7) (T := TX7) (N := 9) hx hb hT i_TX7 hown hK hP 0 rfl rfl 0 (by decide) (hT _ t_212) (fun _ h9 => h9) rfl dX7_clear_9 ?_
  refine lv_iload_n hx hb dX7_clear_12 rfl (lv_at hl 0 rfl) ?_
  refine lv_null hx hb dX7_clear_13 ?_
  refine va_astqN hx hb hK hP hD hS 1 4 rfl rfl (vp_in_iff.mpr (by decide)) dX7_clear_14 (fun H locs hP hD hS => ?_)
  have hP : va_P D vwCl [(h0, .inr (7, [.ref a1, .int 0, .ref a2, .ref a3, .int 0, .ref a4, .int 0, .int 0, .int 0])), (a1, .inl (cy 4, 8, .inr (.inr (.inr (.inr (va_up f7 (7 : Int32).toNatClampNeg none)))))), (a2, .inr (0, [.int 0, .ref tE, .int 0]))] H := hP
  have hD : va_D A [(h0, .inr (7, [.ref a1, .int 0, .ref a2, .ref a3, .int 0, .ref a4, .int 0, .int 0, .int 0])), (a1, .inl (cy 4, 8, .inr (.inr (.inr (.inr (va_up f7 (7 : Int32).toNatClampNeg none)))))), (a2, .inr (0, [.int 0, .ref tE, .int 0]))] := hD
  generalize hff8 : (va_up f7 (7 : Int32).toNatClampNeg none) = f8 at hP hD
  refine lv_iinc (v := 8) (lv' := [(1, .int 8), (0, .ref h0)]) hx hb dX7_clear_15 hl (k := 0) rfl (by decide) (by decide) rfl (fun ls hl => ?_)
  refine lv_goto (tgt := 2) hx hb dX7_clear_18 (by decide) ?_
  refine lv_iload_n hx hb dX7_clear_2 rfl (lv_at hl 0 rfl) ?_
  refine lv_bipush (v := 8) hx hb dX7_clear_3 (by decide) ?_
  refine lv_icmp_ge (tgt := 21) hx hb dX7_clear_5 (by decide) (fun _ => ?_) (fun c9 => absurd (by decide) c9)
  refine lv_aload_n hx hb dX7_clear_21 rfl (lv_at hl 1 rfl) ?_
  refine lv_iconst (v := 0) hx hb dX7_clear_22 (by decide) ?_
  refine va_put (D := D) (ci := 7) (v := .int 0) (ty := .int) (C := RX7) (T := TX7) (N := 9) hx hb hT i_TX7 tyX7 tyX7_ok nmX7 hown hK hP hD hS 0 rfl rfl 1 (by decide) (hT _ t_214) (fun _ h9 => h9) rfl (by decide +kernel) rfl rfl (Nat.le_of_ble_eq_true rfl) dX7_clear_23 (fun H locs hP hD hS => ?_)
  have hP : va_P D vwCl [(h0, .inr (7, [.ref a1, .int 0, .ref a2, .ref a3, .int 0, .ref a4, .int 0, .int 0, .int 0])), (a1, .inl (cy 4, 8, .inr (.inr (.inr (.inr f8))))), (a2, .inr (0, [.int 0, .ref tE, .int 0]))] H := hP
  have hD : va_D A [(h0, .inr (7, [.ref a1, .int 0, .ref a2, .ref a3, .int 0, .ref a4, .int 0, .int 0, .int 0])), (a1, .inl (cy 4, 8, .inr (.inr (.inr (.inr f8))))), (a2, .inr (0, [.int 0, .ref tE, .int 0]))] := hD
  refine lv_aload_n hx hb dX7_clear_26 rfl (lv_at hl 1 rfl) ?_
  refine va_get (D := D) (ci := 7) (v := .ref a2) (C := RX7) (T := TX7) (N := 9) hx hb hT i_TX7 hown hK hP 0 rfl rfl 2 (by decide) (hT _ t_218) (fun _ h9 => h9) rfl dX7_clear_27 ?_
  have hPc := hP.sub (ws' := [(a2, .inr (0, [.int 0, .ref tE, .int 0]))]) [2] rfl
  have hDc := hD.sub (ws' := [(a2, .inr (0, [.int 0, .ref tE, .int 0]))]) [2] (by decide) rfl
  have hFc := va_free (wc := [(a2, .inr (0, [.int 0, .ref tE, .int 0]))]) hD hS hA [2] rfl
  refine va_callv (va_runV (As := []) (rest := []) ⟨hx, hb, hml, hown, hT⟩ (j_al_clear l D cy H.size a2 tE) (cwV 0 hT (gTBV t_570 t_571 t_572 t_142 t_573) rfl rfl rfl (by decide +kernel) ⟨Nat.le_of_ble_eq_true rfl, Nat.le_of_ble_eq_true rfl⟩) ⟨fun a U g mk q => by obtain ⟨q0, q1, qP, qK, qD⟩ := q; exact ⟨q0, q1, qP, va_K.moved (u := U) (U := U.calling g mk a) (Vm.Alike.refl U.vm) qK, qD⟩, va_recv hK hPc (ci := 0) (q0 := 0) rfl rfl, fun U hU hW => ⟨rfl, by rw [hU], by rw [hU]; exact hPc, va_K.moved hW.alike hK, hDc.weaken (fun _ _ _ _ => trivial)⟩⟩ rfl rfl hl.1 rfl (lv_room (Nat.le_of_ble_eq_true rfl)) dX7_clear_30 ⟨Nat.le_of_ble_eq_true rfl, Nat.le_of_ble_eq_true rfl⟩) hS (fun q _ h => hFc q h) hFc (fun  u t H1 locs ht hvm w9 hB hz1 hk1 hS => ?_)
  obtain ⟨hP1, hD1⟩ := hB
  rw [ht] at hP1
  obtain ⟨hP, hD⟩ := va_join (wr := [(h0, .inr (7, [.ref a1, .int 0, .ref a2, .ref a3, .int 0, .ref a4, .int 0, .int 0, .int 0])), (a1, .inl (cy 4, 8, .inr (.inr (.inr (.inr f8)))))]) (w1 := [(a2, .inr (0, [.int 1, .ref tE, .int 0]))]) hP hD [2] [0, 1] rfl rfl (by decide) (by decide) hk1 hFc hP1 hD1
  generalize H1 = H at hP hS ⊢
  have hP : va_P D vwCl [(h0, .inr (7, [.ref a1, .int 0, .ref a2, .ref a3, .int 0, .ref a4, .int 0, .int 0, .int 0])), (a1, .inl (cy 4, 8, .inr (.inr (.inr (.inr f8))))), (a2, .inr (0, [.int 1, .ref tE, .int 0]))] H := hP
  have hD : va_D A [(h0, .inr (7, [.ref a1, .int 0, .ref a2, .ref a3, .int 0, .ref a4, .int 0, .int 0, .int 0])), (a1, .inl (cy 4, 8, .inr (.inr (.inr (.inr f8))))), (a2, .inr (0, [.int 1, .ref tE, .int 0]))] := hD
  refine lv_aload_n hx hb dX7_clear_33 rfl (lv_at hl 1 rfl) ?_
  refine lv_iconst (v := 0) hx hb dX7_clear_34 (by decide) ?_
  refine va_put (D := D) (ci := 7) (v := .int 0) (ty := .int) (C := RX7) (T := TX7) (N := 9) hx hb hT i_TX7 tyX7 tyX7_ok nmX7 hown hK hP hD hS 0 rfl rfl 4 (by decide) (hT _ t_222) (fun _ h9 => h9) rfl (by decide +kernel) rfl rfl (Nat.le_of_ble_eq_true rfl) dX7_clear_35 (fun H locs hP hD hS => ?_)
  have hP : va_P D vwCl [(h0, .inr (7, [.ref a1, .int 0, .ref a2, .ref a3, .int 0, .ref a4, .int 0, .int 0, .int 0])), (a1, .inl (cy 4, 8, .inr (.inr (.inr (.inr f8))))), (a2, .inr (0, [.int 1, .ref tE, .int 0]))] H := hP
  have hD : va_D A [(h0, .inr (7, [.ref a1, .int 0, .ref a2, .ref a3, .int 0, .ref a4, .int 0, .int 0, .int 0])), (a1, .inl (cy 4, 8, .inr (.inr (.inr (.inr f8))))), (a2, .inr (0, [.int 1, .ref tE, .int 0]))] := hD
  refine lv_aload_n hx hb dX7_clear_38 rfl (lv_at hl 1 rfl) ?_
  refine lv_iconst (v := 0) hx hb dX7_clear_39 (by decide) ?_
  refine va_put (D := D) (ci := 7) (v := .int 0) (ty := .int) (C := RX7) (T := TX7) (N := 9) hx hb hT i_TX7 tyX7 tyX7_ok nmX7 hown hK hP hD hS 0 rfl rfl 6 (by decide) (hT _ t_226) (fun _ h9 => h9) rfl (by decide +kernel) rfl rfl (Nat.le_of_ble_eq_true rfl) dX7_clear_40 (fun H locs hP hD hS => ?_)
  have hP : va_P D vwCl [(h0, .inr (7, [.ref a1, .int 0, .ref a2, .ref a3, .int 0, .ref a4, .int 0, .int 0, .int 0])), (a1, .inl (cy 4, 8, .inr (.inr (.inr (.inr f8))))), (a2, .inr (0, [.int 1, .ref tE, .int 0]))] H := hP
  have hD : va_D A [(h0, .inr (7, [.ref a1, .int 0, .ref a2, .ref a3, .int 0, .ref a4, .int 0, .int 0, .int 0])), (a1, .inl (cy 4, 8, .inr (.inr (.inr (.inr f8))))), (a2, .inr (0, [.int 1, .ref tE, .int 0]))] := hD
  refine lv_aload_n hx hb dX7_clear_43 rfl (lv_at hl 1 rfl) ?_
  refine lv_iconst (v := 0) hx hb dX7_clear_44 (by decide) ?_
  refine va_put (D := D) (ci := 7) (v := .int 0) (ty := .int) (C := RX7) (T := TX7) (N := 9) hx hb hT i_TX7 tyX7 tyX7_ok nmX7 hown hK hP hD hS 0 rfl rfl 7 (by decide) (hT _ t_229) (fun _ h9 => h9) rfl (by decide +kernel) rfl rfl (Nat.le_of_ble_eq_true rfl) dX7_clear_45 (fun H locs hP hD hS => ?_)
  have hP : va_P D vwCl [(h0, .inr (7, [.ref a1, .int 0, .ref a2, .ref a3, .int 0, .ref a4, .int 0, .int 0, .int 0])), (a1, .inl (cy 4, 8, .inr (.inr (.inr (.inr f8))))), (a2, .inr (0, [.int 1, .ref tE, .int 0]))] H := hP
  have hD : va_D A [(h0, .inr (7, [.ref a1, .int 0, .ref a2, .ref a3, .int 0, .ref a4, .int 0, .int 0, .int 0])), (a1, .inl (cy 4, 8, .inr (.inr (.inr (.inr f8))))), (a2, .inr (0, [.int 1, .ref tE, .int 0]))] := hD
  refine lv_aload_n hx hb dX7_clear_48 rfl (lv_at hl 1 rfl) ?_
  refine lv_iconst (v := (-1)) hx hb dX7_clear_49 (by decide) ?_
  refine va_put (D := D) (ci := 7) (v := .int (-1)) (ty := .int) (C := RX7) (T := TX7) (N := 9) hx hb hT i_TX7 tyX7 tyX7_ok nmX7 hown hK hP hD hS 0 rfl rfl 8 (by decide) (hT _ t_232) (fun _ h9 => h9) rfl (by decide +kernel) rfl rfl (Nat.le_of_ble_eq_true rfl) dX7_clear_50 (fun H locs hP hD hS => ?_)
  have hP : va_P D vwCl [(h0, .inr (7, [.ref a1, .int 0, .ref a2, .ref a3, .int 0, .ref a4, .int 0, .int 0, .int (-1)])), (a1, .inl (cy 4, 8, .inr (.inr (.inr (.inr f8))))), (a2, .inr (0, [.int 1, .ref tE, .int 0]))] H := hP
  have hD : va_D A [(h0, .inr (7, [.ref a1, .int 0, .ref a2, .ref a3, .int 0, .ref a4, .int 0, .int 0, .int (-1)])), (a1, .inl (cy 4, 8, .inr (.inr (.inr (.inr f8))))), (a2, .inr (0, [.int 1, .ref tE, .int 0]))] := hD
  have hP9 := hP.sub (ws' := [(h0, .inr (7, [.ref a1, .int 0, .ref a2, .ref a3, .int 0, .ref a4, .int 0, .int 0, .int (-1)])), (a2, .inr (0, [.int 1, .ref tE, .int 0]))]) [0, 2] rfl
  have hD9 := hD.sub (ws' := [(h0, .inr (7, [.ref a1, .int 0, .ref a2, .ref a3, .int 0, .ref a4, .int 0, .int 0, .int (-1)])), (a2, .inr (0, [.int 1, .ref tE, .int 0]))]) [0, 2] (by decide) rfl
  refine W.widen (k := 0) (n := 0) (Nat.le_of_ble_eq_true rfl) (Nat.le_of_ble_eq_true rfl) ?_
  exact W.vret hx hb hr (fun t ht hW => ⟨⟨(), rfl, trivial, by rw [ht]; exact hP9, hD9⟩, hS.F ht⟩) hS.2.2 dX7_clear_53

set_option maxHeartbeats 4000000 in
set_option maxRecDepth 100000 in
theorem c_findKeys (l : Launch) (D : va_G) (cy : Nat → ClassId) (sz : Nat) (h0 : Nat) (a1 : Nat) (a2 : Nat) (a3 : Nat) (a4 : Nat) : Met l yX8_findKeys (.code yX8_findKeys cX8_findKeys 3 none :: TB) ({ frames := 0, cells := 0, slots := 0, locals := 0 }) (va_Pc [.ref h0] (fun U => U.heap.size = sz ∧ va_P D vwCl [(h0, .inr (8, [.ref a1, .ref a2, .ref a3, .ref a4, .int 0, .int 0, .int 0, .int 0, .int (-1)]))] U.heap ∧ va_K D vwCl (TY cy) U ∧ va_D (fun _ => True) [(h0, .inr (8, [.ref a1, .ref a2, .ref a3, .ref a4, .int 0, .int 0, .int 0, .int 0, .int (-1)]))])) (va_Qv (fun (u : Unit) => True) (fun (u : Unit) t => va_P D vwCl [(h0, .inr (8, [.ref a1, .ref a2, .ref a3, .ref a4, .int 0, .int 0, .int 0, .int 0, .int (-1)]))] t.heap ∧ va_D (va_A [(h0, .inr (8, [.ref a1, .ref a2, .ref a3, .ref a4, .int 0, .int 0, .int 0, .int 0, .int (-1)]))] sz) [(h0, .inr (8, [.ref a1, .ref a2, .ref a3, .ref a4, .int 0, .int 0, .int 0, .int 0, .int (-1)]))]) (va_A [(h0, .inr (8, [.ref a1, .ref a2, .ref a3, .ref a4, .int 0, .int 0, .int 0, .int 0, .int (-1)]))] sz)) 0 0 (va_A [(h0, .inr (8, [.ref a1, .ref a2, .ref a3, .ref a4, .int 0, .int 0, .int 0, .int 0, .int (-1)]))] sz) := by
  refine Met.ofW (cc := cX8_findKeys) (maxL := 3) (ret := none) (by decide) rfl ?_
  intro p e s m args below meth c s₁ B hml hv
  obtain ⟨rfl, hsz, hP, hK, hD0⟩ := hv
  have hx := B.exec
  have hb := B.bytes
  have hr := B.returns
  have hts := atoms_spec (ws := .code yX8_findKeys cX8_findKeys 3 none :: TB) B.pre
  have hT : ∀ w ∈ TB, w.before _ s = true := fun w h => hts w (List.mem_cons_of_mem _ h)
  have hown : s.vm.findClass "MakerStarts$Tokens" = some m.cls := findClass_of_methodNamed B.named
  have hlocks := B.notSynchronized
  subst hsz
  have hD := hD0.self (sz := s.heap.size)
  generalize hAe : va_A [(h0, .inr (8, [.ref a1, .ref a2, .ref a3, .ref a4, .int 0, .int 0, .int 0, .int 0, .int (-1)]))] s.heap.size = A at hD  ⊢
  have hA : ∀ q : Nat, s.heap.size ≤ q → A q := fun q h => by rw [← hAe]; exact Or.inr h
  have hS : va_S A s.heap s.heap [] := va_S.rf
  have hP : va_P D vwCl [(h0, .inr (8, [.ref a1, .ref a2, .ref a3, .ref a4, .int 0, .int 0, .int 0, .int 0, .int (-1)]))] s.heap := hP
  have hl := lv_entry ([.ref h0]) (n := 3) (Nat.le_of_ble_eq_true rfl)
  rw [lg_entry_eq]
  generalize (lg_sl ([.ref h0]) ++ List.replicate (3 - (lg_sl ([.ref h0])).length) Slot.unset).toArray = ls at hl ⊢
  have hl : lv_has ls 3 [(0, .ref h0)] := hl
  refine lv_iconst (v := 0) hx hb dX8_findKeys_0 (by decide) ?_
  refine lv_istore_n (lv' := [(1, .int 0), (0, .ref h0)]) hx hb dX8_findKeys_1 rfl hl (by decide) rfl (fun ls hl => ?_)
  refine lv_iload_n hx hb dX8_findKeys_2 rfl (lv_at hl 0 rfl) ?_
  refine lv_aload_n hx hb dX8_findKeys_3 rfl (lv_at hl 1 rfl) ?_
  refine va_get (D := D) (ci := 8) (v := .int 0) (C := RX8) (T := TX8) (N := 9) hx hb hT i_TX8 hown hK hP 0 rfl rfl 4 (by decide) (hT _ t_320) (fun _ h9 => h9) rfl dX8_findKeys_4 ?_
  refine lv_icmp_ge (tgt := 67) hx hb dX8_findKeys_7 (by decide) (fun _ => ?_) (fun c9 => absurd (by decide) c9)
  have hP9 := hP.sub (ws' := [(h0, .inr (8, [.ref a1, .ref a2, .ref a3, .ref a4, .int 0, .int 0, .int 0, .int 0, .int (-1)]))]) [0] rfl
  have hD9 := hD.sub (ws' := [(h0, .inr (8, [.ref a1, .ref a2, .ref a3, .ref a4, .int 0, .int 0, .int 0, .int 0, .int (-1)]))]) [0] (by decide) rfl
  refine W.widen (k := 0) (n := 0) (Nat.le_of_ble_eq_true rfl) (Nat.le_of_ble_eq_true rfl) ?_
  exact W.vret hx hb hr (fun t ht hW => ⟨⟨(), rfl, trivial, by rw [ht]; exact hP9, hD9⟩, hS.F ht⟩) hS.2.2 dX8_findKeys_67

set_option maxHeartbeats 4000000 in
set_option maxRecDepth 100000 in
theorem c_scan (l : Launch) (D : va_G) (cy : Nat → ClassId) (sz : Nat) (h0 : Nat) (a1 : Nat) (a2 : Nat) (a3 : Nat) (a4 : Nat) (tp : Nat) : Met l yX8_scan (.code yX8_scan cX8_scan 5 none :: TB) ({ frames := 1, cells := 0, slots := 0, locals := 22 }) (va_Pc [.ref h0, .ref tp, .int 0] (fun U => U.heap.size = sz ∧ va_P D vwCl [(h0, .inr (8, [.ref a1, .ref a2, .ref a3, .ref a4, .int 0, .int 0, .int 0, .int 0, .int 0])), (a1, .inl (cy 1, 1601, .inl (fun _ => 0))), (a2, .inl (cy 1, 1601, .inl (fun _ => 0)))] U.heap ∧ va_K D vwCl (TY cy) U ∧ va_D (fun _ => True) [(h0, .inr (8, [.ref a1, .ref a2, .ref a3, .ref a4, .int 0, .int 0, .int 0, .int 0, .int 0])), (a1, .inl (cy 1, 1601, .inl (fun _ => 0))), (a2, .inl (cy 1, 1601, .inl (fun _ => 0)))])) (va_Qv (fun (u : Nat → Int32) => u 0 = 0) (fun (u : Nat → Int32) t => va_P D vwCl [(h0, .inr (8, [.ref a1, .ref a2, .ref a3, .ref a4, .int 0, .int 0, .int 0, .int 0, .int (-1)])), (a1, .inl (cy 1, 1601, .inl u))] t.heap ∧ va_D (va_A [(h0, .inr (8, [.ref a1, .ref a2, .ref a3, .ref a4, .int 0, .int 0, .int 0, .int 0, .int 0])), (a1, .inl (cy 1, 1601, .inl (fun _ => 0))), (a2, .inl (cy 1, 1601, .inl (fun _ => 0)))] sz) [(h0, .inr (8, [.ref a1, .ref a2, .ref a3, .ref a4, .int 0, .int 0, .int 0, .int 0, .int (-1)])), (a1, .inl (cy 1, 1601, .inl u))]) (va_A [(h0, .inr (8, [.ref a1, .ref a2, .ref a3, .ref a4, .int 0, .int 0, .int 0, .int 0, .int 0])), (a1, .inl (cy 1, 1601, .inl (fun _ => 0))), (a2, .inl (cy 1, 1601, .inl (fun _ => 0)))] sz)) 0 0 (va_A [(h0, .inr (8, [.ref a1, .ref a2, .ref a3, .ref a4, .int 0, .int 0, .int 0, .int 0, .int 0])), (a1, .inl (cy 1, 1601, .inl (fun _ => 0))), (a2, .inl (cy 1, 1601, .inl (fun _ => 0)))] sz) := by
  refine Met.ofW (cc := cX8_scan) (maxL := 5) (ret := none) (by decide) rfl ?_
  intro p e s m args below meth c s₁ B hml hv
  obtain ⟨rfl, hsz, hP, hK, hD0⟩ := hv
  have hx := B.exec
  have hb := B.bytes
  have hr := B.returns
  have hts := atoms_spec (ws := .code yX8_scan cX8_scan 5 none :: TB) B.pre
  have hT : ∀ w ∈ TB, w.before _ s = true := fun w h => hts w (List.mem_cons_of_mem _ h)
  have hown : s.vm.findClass "MakerStarts$Tokens" = some m.cls := findClass_of_methodNamed B.named
  have hlocks := B.notSynchronized
  subst hsz
  have hD := hD0.self (sz := s.heap.size)
  generalize hAe : va_A [(h0, .inr (8, [.ref a1, .ref a2, .ref a3, .ref a4, .int 0, .int 0, .int 0, .int 0, .int 0])), (a1, .inl (cy 1, 1601, .inl (fun _ => 0))), (a2, .inl (cy 1, 1601, .inl (fun _ => 0)))] s.heap.size = A at hD  ⊢
  have hA : ∀ q : Nat, s.heap.size ≤ q → A q := fun q h => by rw [← hAe]; exact Or.inr h
  have hS : va_S A s.heap s.heap [] := va_S.rf
  have hP : va_P D vwCl [(h0, .inr (8, [.ref a1, .ref a2, .ref a3, .ref a4, .int 0, .int 0, .int 0, .int 0, .int 0])), (a1, .inl (cy 1, 1601, .inl (fun _ => 0))), (a2, .inl (cy 1, 1601, .inl (fun _ => 0)))] s.heap := hP
  have hl := lv_entry ([.ref h0, .ref tp, .int 0]) (n := 5) (Nat.le_of_ble_eq_true rfl)
  rw [lg_entry_eq]
  generalize (lg_sl ([.ref h0, .ref tp, .int 0]) ++ List.replicate (5 - (lg_sl ([.ref h0, .ref tp, .int 0])).length) Slot.unset).toArray = ls at hl ⊢
  have hl : lv_has ls 5 [(0, .ref h0), (1, .ref tp), (2, .int 0)] := hl
  refine lv_aload_n hx hb dX8_scan_0 rfl (lv_at hl 0 rfl) ?_
  refine lv_iconst (v := 0) hx hb dX8_scan_1 (by decide) ?_
  refine va_put (D := D) (ci := 8) (v := .int 0) (ty := .int) (C := RX8) (T := TX8) (N := 9) hx hb hT i_TX8 tyX8 tyX8_ok nmX8 hown hK hP hD hS 0 rfl rfl 4 (by decide) (hT _ t_320) (fun _ h9 => h9) rfl (by decide +kernel) rfl rfl (Nat.le_of_ble_eq_true rfl) dX8_scan_2 (fun H locs hP hD hS => ?_)
  have hP : va_P D vwCl [(h0, .inr (8, [.ref a1, .ref a2, .ref a3, .ref a4, .int 0, .int 0, .int 0, .int 0, .int 0])), (a1, .inl (cy 1, 1601, .inl (fun _ => 0))), (a2, .inl (cy 1, 1601, .inl (fun _ => 0)))] H := hP
  have hD : va_D A [(h0, .inr (8, [.ref a1, .ref a2, .ref a3, .ref a4, .int 0, .int 0, .int 0, .int 0, .int 0])), (a1, .inl (cy 1, 1601, .inl (fun _ => 0))), (a2, .inl (cy 1, 1601, .inl (fun _ => 0)))] := hD
  refine lv_aload_n hx hb dX8_scan_5 rfl (lv_at hl 0 rfl) ?_
  refine lv_iconst (v := 0) hx hb dX8_scan_6 (by decide) ?_
  refine va_put (D := D) (ci := 8) (v := .int 0) (ty := .int) (C := RX8) (T := TX8) (N := 9) hx hb hT i_TX8 tyX8 tyX8_ok nmX8 hown hK hP hD hS 0 rfl rfl 5 (by decide) (hT _ t_321) (fun _ h9 => h9) rfl (by decide +kernel) rfl rfl (Nat.le_of_ble_eq_true rfl) dX8_scan_7 (fun H locs hP hD hS => ?_)
  have hP : va_P D vwCl [(h0, .inr (8, [.ref a1, .ref a2, .ref a3, .ref a4, .int 0, .int 0, .int 0, .int 0, .int 0])), (a1, .inl (cy 1, 1601, .inl (fun _ => 0))), (a2, .inl (cy 1, 1601, .inl (fun _ => 0)))] H := hP
  have hD : va_D A [(h0, .inr (8, [.ref a1, .ref a2, .ref a3, .ref a4, .int 0, .int 0, .int 0, .int 0, .int 0])), (a1, .inl (cy 1, 1601, .inl (fun _ => 0))), (a2, .inl (cy 1, 1601, .inl (fun _ => 0)))] := hD
  refine lv_aload_n hx hb dX8_scan_10 rfl (lv_at hl 0 rfl) ?_
  refine lv_iconst (v := 0) hx hb dX8_scan_11 (by decide) ?_
  refine va_put (D := D) (ci := 8) (v := .int 0) (ty := .int) (C := RX8) (T := TX8) (N := 9) hx hb hT i_TX8 tyX8 tyX8_ok nmX8 hown hK hP hD hS 0 rfl rfl 6 (by decide) (hT _ t_322) (fun _ h9 => h9) rfl (by decide +kernel) rfl rfl (Nat.le_of_ble_eq_true rfl) dX8_scan_12 (fun H locs hP hD hS => ?_)
  have hP : va_P D vwCl [(h0, .inr (8, [.ref a1, .ref a2, .ref a3, .ref a4, .int 0, .int 0, .int 0, .int 0, .int 0])), (a1, .inl (cy 1, 1601, .inl (fun _ => 0))), (a2, .inl (cy 1, 1601, .inl (fun _ => 0)))] H := hP
  have hD : va_D A [(h0, .inr (8, [.ref a1, .ref a2, .ref a3, .ref a4, .int 0, .int 0, .int 0, .int 0, .int 0])), (a1, .inl (cy 1, 1601, .inl (fun _ => 0))), (a2, .inl (cy 1, 1601, .inl (fun _ => 0)))] := hD
  refine lv_aload_n hx hb dX8_scan_15 rfl (lv_at hl 0 rfl) ?_
  refine lv_iconst (v := 0) hx hb dX8_scan_16 (by decide) ?_
  refine va_put (D := D) (ci := 8) (v := .int 0) (ty := .int) (C := RX8) (T := TX8) (N := 9) hx hb hT i_TX8 tyX8 tyX8_ok nmX8 hown hK hP hD hS 0 rfl rfl 7 (by decide) (hT _ t_323) (fun _ h9 => h9) rfl (by decide +kernel) rfl rfl (Nat.le_of_ble_eq_true rfl) dX8_scan_17 (fun H locs hP hD hS => ?_)
  have hP : va_P D vwCl [(h0, .inr (8, [.ref a1, .ref a2, .ref a3, .ref a4, .int 0, .int 0, .int 0, .int 0, .int 0])), (a1, .inl (cy 1, 1601, .inl (fun _ => 0))), (a2, .inl (cy 1, 1601, .inl (fun _ => 0)))] H := hP
  have hD : va_D A [(h0, .inr (8, [.ref a1, .ref a2, .ref a3, .ref a4, .int 0, .int 0, .int 0, .int 0, .int 0])), (a1, .inl (cy 1, 1601, .inl (fun _ => 0))), (a2, .inl (cy 1, 1601, .inl (fun _ => 0)))] := hD
  refine lv_aload_n hx hb dX8_scan_20 rfl (lv_at hl 0 rfl) ?_
  refine lv_iconst (v := (-1)) hx hb dX8_scan_21 (by decide) ?_
  refine va_put (D := D) (ci := 8) (v := .int (-1)) (ty := .int) (C := RX8) (T := TX8) (N := 9) hx hb hT i_TX8 tyX8 tyX8_ok nmX8 hown hK hP hD hS 0 rfl rfl 8 (by decide) (hT _ t_326) (fun _ h9 => h9) rfl (by decide +kernel) rfl rfl (Nat.le_of_ble_eq_true rfl) dX8_scan_22 (fun H locs hP hD hS => ?_)
  have hP : va_P D vwCl [(h0, .inr (8, [.ref a1, .ref a2, .ref a3, .ref a4, .int 0, .int 0, .int 0, .int 0, .int (-1)])), (a1, .inl (cy 1, 1601, .inl (fun _ => 0))), (a2, .inl (cy 1, 1601, .inl (fun _ => 0)))] H := hP
  have hD : va_D A [(h0, .inr (8, [.ref a1, .ref a2, .ref a3, .ref a4, .int 0, .int 0, .int 0, .int 0, .int (-1)])), (a1, .inl (cy 1, 1601, .inl (fun _ => 0))), (a2, .inl (cy 1, 1601, .inl (fun _ => 0)))] := hD
  refine lv_iconst (v := 0) hx hb dX8_scan_25 (by decide) ?_
  refine lv_istore_n (lv' := [(3, .int 0), (0, .ref h0), (1, .ref tp), (2, .int 0)]) hx hb dX8_scan_26 rfl hl (by decide) rfl (fun ls hl => ?_)
  refine lv_iload_n hx hb dX8_scan_27 rfl (lv_at hl 0 rfl) ?_
  refine lv_iload_n hx hb dX8_scan_28 rfl (lv_at hl 3 rfl) ?_
  refine lv_icmp_ge (tgt := 107) hx hb dX8_scan_29 (by decide) (fun _ => ?_) (fun c9 => absurd (by decide) c9)
  refine lv_aload_n hx hb dX8_scan_107 rfl (lv_at hl 1 rfl) ?_
  refine va_get (D := D) (ci := 8) (v := .ref a1) (C := RX8) (T := TX8) (N := 9) hx hb hT i_TX8 hown hK hP 0 rfl rfl 0 (by decide) (hT _ t_316) (fun _ h9 => h9) rfl dX8_scan_108 ?_
  refine lv_aload_n hx hb dX8_scan_111 rfl (lv_at hl 1 rfl) ?_
  refine va_get (D := D) (ci := 8) (v := .int 0) (C := RX8) (T := TX8) (N := 9) hx hb hT i_TX8 hown hK hP 0 rfl rfl 4 (by decide) (hT _ t_320) (fun _ h9 => h9) rfl dX8_scan_112 ?_
  refine lv_iconst (v := 0) hx hb dX8_scan_115 (by decide) ?_
  refine va_iast hx hb hK hP hD hS 1 1 rfl rfl (vp_in_iff.mpr (by decide)) dX8_scan_116 (fun H locs hP hD hS => ?_)
  have hP : va_P D vwCl [(h0, .inr (8, [.ref a1, .ref a2, .ref a3, .ref a4, .int 0, .int 0, .int 0, .int 0, .int (-1)])), (a1, .inl (cy 1, 1601, .inl (upd (fun _ => 0) (0 : Int32).toNatClampNeg 0))), (a2, .inl (cy 1, 1601, .inl (fun _ => 0)))] H := hP
  have hD : va_D A [(h0, .inr (8, [.ref a1, .ref a2, .ref a3, .ref a4, .int 0, .int 0, .int 0, .int 0, .int (-1)])), (a1, .inl (cy 1, 1601, .inl (upd (fun _ => 0) (0 : Int32).toNatClampNeg 0))), (a2, .inl (cy 1, 1601, .inl (fun _ => 0)))] := hD
  refine lv_aload_n hx hb dX8_scan_117 rfl (lv_at hl 1 rfl) ?_
  refine va_get (D := D) (ci := 8) (v := .ref a2) (C := RX8) (T := TX8) (N := 9) hx hb hT i_TX8 hown hK hP 0 rfl rfl 1 (by decide) (hT _ t_317) (fun _ h9 => h9) rfl dX8_scan_118 ?_
  refine lv_aload_n hx hb dX8_scan_121 rfl (lv_at hl 1 rfl) ?_
  refine va_get (D := D) (ci := 8) (v := .int 0) (C := RX8) (T := TX8) (N := 9) hx hb hT i_TX8 hown hK hP 0 rfl rfl 4 (by decide) (hT _ t_320) (fun _ h9 => h9) rfl dX8_scan_122 ?_
  refine lv_iload_n hx hb dX8_scan_125 rfl (lv_at hl 3 rfl) ?_
  refine va_iast hx hb hK hP hD hS 2 1 rfl rfl (vp_in_iff.mpr (by decide)) dX8_scan_126 (fun H locs hP hD hS => ?_)
  have hP : va_P D vwCl [(h0, .inr (8, [.ref a1, .ref a2, .ref a3, .ref a4, .int 0, .int 0, .int 0, .int 0, .int (-1)])), (a1, .inl (cy 1, 1601, .inl (upd (fun _ => 0) (0 : Int32).toNatClampNeg 0))), (a2, .inl (cy 1, 1601, .inl (upd (fun _ => 0) (0 : Int32).toNatClampNeg 0)))] H := hP
  have hD : va_D A [(h0, .inr (8, [.ref a1, .ref a2, .ref a3, .ref a4, .int 0, .int 0, .int 0, .int 0, .int (-1)])), (a1, .inl (cy 1, 1601, .inl (upd (fun _ => 0) (0 : Int32).toNatClampNeg 0))), (a2, .inl (cy 1, 1601, .inl (upd (fun _ => 0) (0 : Int32).toNatClampNeg 0)))] := hD
  refine lv_aload_n hx hb dX8_scan_127 rfl (lv_at hl 1 rfl) ?_
  have hPc := hP.sub (ws' := [(h0, .inr (8, [.ref a1, .ref a2, .ref a3, .ref a4, .int 0, .int 0, .int 0, .int 0, .int (-1)]))]) [0] rfl
  have hDc := hD.sub (ws' := [(h0, .inr (8, [.ref a1, .ref a2, .ref a3, .ref a4, .int 0, .int 0, .int 0, .int 0, .int (-1)]))]) [0] (by decide) rfl
  have hFc := va_free (wc := [(h0, .inr (8, [.ref a1, .ref a2, .ref a3, .ref a4, .int 0, .int 0, .int 0, .int 0, .int (-1)]))]) hD hS hA [0] rfl
  refine va_callv (va_runV (As := []) (rest := []) ⟨hx, hb, hml, hown, hT⟩ (c_findKeys l D cy H.size h0 a1 a2 a3 a4) (cwV 0 hT (gTBV t_661 t_663 t_3 t_144 t_664) rfl rfl rfl (by decide +kernel) ⟨Nat.le_of_ble_eq_true rfl, Nat.le_of_ble_eq_true rfl⟩) ⟨fun a U g mk q => by obtain ⟨q0, q1, qP, qK, qD⟩ := q; exact ⟨q0, q1, qP, va_K.moved (u := U) (U := U.calling g mk a) (Vm.Alike.refl U.vm) qK, qD⟩, va_recv hK hPc (ci := 8) (q0 := 0) rfl rfl, fun U hU hW => ⟨rfl, by rw [hU], by rw [hU]; exact hPc, va_K.moved hW.alike hK, hDc.weaken (fun _ _ _ _ => trivial)⟩⟩ rfl rfl hl.1 rfl (lv_room (Nat.le_of_ble_eq_true rfl)) dX8_scan_128 ⟨Nat.le_of_ble_eq_true rfl, Nat.le_of_ble_eq_true rfl⟩) hS (fun q _ h => hFc q h) hFc (fun  u t H1 locs ht hvm w3 hB hz1 hk1 hS => ?_)
  obtain ⟨hP1, hD1⟩ := hB
  rw [ht] at hP1
  obtain ⟨hP, hD⟩ := va_join (wr := [(a1, .inl (cy 1, 1601, .inl (upd (fun _ => 0) (0 : Int32).toNatClampNeg 0))), (a2, .inl (cy 1, 1601, .inl (upd (fun _ => 0) (0 : Int32).toNatClampNeg 0)))]) (w1 := [(h0, .inr (8, [.ref a1, .ref a2, .ref a3, .ref a4, .int 0, .int 0, .int 0, .int 0, .int (-1)]))]) hP hD [0] [1, 2] rfl rfl (by decide) (by decide) hk1 hFc hP1 hD1
  generalize H1 = H at hP hS ⊢
  have hP : va_P D vwCl [(a1, .inl (cy 1, 1601, .inl (upd (fun _ => 0) (0 : Int32).toNatClampNeg 0))), (a2, .inl (cy 1, 1601, .inl (upd (fun _ => 0) (0 : Int32).toNatClampNeg 0))), (h0, .inr (8, [.ref a1, .ref a2, .ref a3, .ref a4, .int 0, .int 0, .int 0, .int 0, .int (-1)]))] H := hP
  have hD : va_D A [(a1, .inl (cy 1, 1601, .inl (upd (fun _ => 0) (0 : Int32).toNatClampNeg 0))), (a2, .inl (cy 1, 1601, .inl (upd (fun _ => 0) (0 : Int32).toNatClampNeg 0))), (h0, .inr (8, [.ref a1, .ref a2, .ref a3, .ref a4, .int 0, .int 0, .int 0, .int 0, .int (-1)]))] := hD
  have hP9 := hP.sub (ws' := [(h0, .inr (8, [.ref a1, .ref a2, .ref a3, .ref a4, .int 0, .int 0, .int 0, .int 0, .int (-1)])), (a1, .inl (cy 1, 1601, .inl (upd (fun _ => 0) (0 : Int32).toNatClampNeg 0)))]) [2, 0] rfl
  have hD9 := hD.sub (ws' := [(h0, .inr (8, [.ref a1, .ref a2, .ref a3, .ref a4, .int 0, .int 0, .int 0, .int 0, .int (-1)])), (a1, .inl (cy 1, 1601, .inl (upd (fun _ => 0) (0 : Int32).toNatClampNeg 0)))]) [2, 0] (by decide) rfl
  refine W.widen (k := 0) (n := 0) (Nat.le_of_ble_eq_true rfl) (Nat.le_of_ble_eq_true rfl) ?_
  exact W.vret hx hb hr (fun t ht hW => ⟨⟨(upd (fun _ => 0) (0 : Int32).toNatClampNeg 0), rfl, (by first | rfl | decide), by rw [ht]; exact hP9, hD9⟩, hS.F ht⟩) hS.2.2 dX8_scan_131

set_option maxHeartbeats 4000000 in
set_option maxRecDepth 100000 in
theorem c_is256 (l : Launch) (D : va_G) (cy : Nat → ClassId) (sz : Nat) (h0 : Nat) (a1 : Nat) (a2 : Nat) (a3 : Nat) (a4 : Nat) (kf : Nat → Int32) (hk0 : kf 0 = 0) : Met l yX8_is (.code yX8_is cX8_is 2 (some .boolean) :: TB) ({ frames := 0, cells := 0, slots := 0, locals := 0 }) (va_Pc [.ref h0, .int 256] (fun U => U.heap.size = sz ∧ va_P D vwCl [(h0, .inr (8, [.ref a1, .ref a2, .ref a3, .ref a4, .int 0, .int 0, .int 0, .int 0, .int (-1)])), (a1, .inl (cy 1, 1601, .inl kf))] U.heap ∧ va_K D vwCl (TY cy) U ∧ va_D (fun _ => True) [(h0, .inr (8, [.ref a1, .ref a2, .ref a3, .ref a4, .int 0, .int 0, .int 0, .int 0, .int (-1)])), (a1, .inl (cy 1, 1601, .inl kf))])) (va_Qi (fun (r : Int32) (u : Unit) => r = 0) (fun (u : Unit) t => va_P D vwCl [(h0, .inr (8, [.ref a1, .ref a2, .ref a3, .ref a4, .int 0, .int 0, .int 0, .int 0, .int (-1)])), (a1, .inl (cy 1, 1601, .inl kf))] t.heap ∧ va_D (va_A [(h0, .inr (8, [.ref a1, .ref a2, .ref a3, .ref a4, .int 0, .int 0, .int 0, .int 0, .int (-1)])), (a1, .inl (cy 1, 1601, .inl kf))] sz) [(h0, .inr (8, [.ref a1, .ref a2, .ref a3, .ref a4, .int 0, .int 0, .int 0, .int 0, .int (-1)])), (a1, .inl (cy 1, 1601, .inl kf))]) (va_A [(h0, .inr (8, [.ref a1, .ref a2, .ref a3, .ref a4, .int 0, .int 0, .int 0, .int 0, .int (-1)])), (a1, .inl (cy 1, 1601, .inl kf))] sz)) 0 0 (va_A [(h0, .inr (8, [.ref a1, .ref a2, .ref a3, .ref a4, .int 0, .int 0, .int 0, .int 0, .int (-1)])), (a1, .inl (cy 1, 1601, .inl kf))] sz) := by
  refine Met.ofW (cc := cX8_is) (maxL := 2) (ret := (some .boolean)) (by decide) rfl ?_
  intro p e s m args below meth c s₁ B hml hv
  obtain ⟨rfl, hsz, hP, hK, hD0⟩ := hv
  have hx := B.exec
  have hb := B.bytes
  have hr := B.returns
  have hts := atoms_spec (ws := .code yX8_is cX8_is 2 (some .boolean) :: TB) B.pre
  have hT : ∀ w ∈ TB, w.before _ s = true := fun w h => hts w (List.mem_cons_of_mem _ h)
  have hown : s.vm.findClass "MakerStarts$Tokens" = some m.cls := findClass_of_methodNamed B.named
  have hlocks := B.notSynchronized
  subst hsz
  have hD := hD0.self (sz := s.heap.size)
  generalize hAe : va_A [(h0, .inr (8, [.ref a1, .ref a2, .ref a3, .ref a4, .int 0, .int 0, .int 0, .int 0, .int (-1)])), (a1, .inl (cy 1, 1601, .inl kf))] s.heap.size = A at hD  ⊢
  have hA : ∀ q : Nat, s.heap.size ≤ q → A q := fun q h => by rw [← hAe]; exact Or.inr h
  have hS : va_S A s.heap s.heap [] := va_S.rf
  have hP : va_P D vwCl [(h0, .inr (8, [.ref a1, .ref a2, .ref a3, .ref a4, .int 0, .int 0, .int 0, .int 0, .int (-1)])), (a1, .inl (cy 1, 1601, .inl kf))] s.heap := hP
  have hl := lv_entry ([.ref h0, .int 256]) (n := 2) (Nat.le_of_ble_eq_true rfl)
  rw [lg_entry_eq]
  generalize (lg_sl ([.ref h0, .int 256]) ++ List.replicate (2 - (lg_sl ([.ref h0, .int 256])).length) Slot.unset).toArray = ls at hl ⊢
  have hl : lv_has ls 2 [(0, .ref h0), (1, .int 256)] := hl
  refine lv_aload_n hx hb dX8_is_0 rfl (lv_at hl 0 rfl) ?_
  refine va_get (D := D) (ci := 8) (v := .int 0) (C := RX8) (T := TX8) (N := 9) hx hb hT i_TX8 hown hK hP 0 rfl rfl 7 (by decide) (hT _ t_323) (fun _ h9 => h9) rfl dX8_is_1 ?_
  refine lv_if_ne (tgt := 24) hx hb dX8_is_4 (by decide) (fun c9 => absurd (by decide) c9) (fun _ => ?_)
  refine lv_aload_n hx hb dX8_is_7 rfl (lv_at hl 0 rfl) ?_
  refine va_get (D := D) (ci := 8) (v := .ref a1) (C := RX8) (T := TX8) (N := 9) hx hb hT i_TX8 hown hK hP 0 rfl rfl 0 (by decide) (hT _ t_316) (fun _ h9 => h9) rfl dX8_is_8 ?_
  refine lv_aload_n hx hb dX8_is_11 rfl (lv_at hl 0 rfl) ?_
  refine va_get (D := D) (ci := 8) (v := .int 0) (C := RX8) (T := TX8) (N := 9) hx hb hT i_TX8 hown hK hP 0 rfl rfl 6 (by decide) (hT _ t_322) (fun _ h9 => h9) rfl dX8_is_12 ?_
  refine va_iald hx hb hK hP 1 1 rfl rfl (vp_in_iff.mpr (by decide)) dX8_is_15 ?_
  refine lv_topi (fun z1 e2 => ?_)
  obtain rfl : z1 = 0 := e2.trans hk0
  refine lv_iload_n hx hb dX8_is_16 rfl (lv_at hl 1 rfl) ?_
  refine lv_icmp_ne (tgt := 24) hx hb dX8_is_17 (by decide) (fun _ => ?_) (fun c9 => absurd c9 (by decide))
  refine lv_iconst (v := 0) hx hb dX8_is_24 (by decide) ?_
  have hP9 := hP.sub (ws' := [(h0, .inr (8, [.ref a1, .ref a2, .ref a3, .ref a4, .int 0, .int 0, .int 0, .int 0, .int (-1)])), (a1, .inl (cy 1, 1601, .inl kf))]) [0, 1] rfl
  have hD9 := hD.sub (ws' := [(h0, .inr (8, [.ref a1, .ref a2, .ref a3, .ref a4, .int 0, .int 0, .int 0, .int 0, .int (-1)])), (a1, .inl (cy 1, 1601, .inl kf))]) [0, 1] (by decide) rfl
  refine W.widen (k := 0) (n := 0) (Nat.le_of_ble_eq_true rfl) (Nat.le_of_ble_eq_true rfl) ?_
  exact W.zret (v := 0) hx hb hr rfl (fun t ht hW => ⟨⟨0, (), rfl, rfl, by rw [ht]; exact hP9, hD9⟩, hS.F ht⟩) hS.2.2 dX8_is_25

set_option maxHeartbeats 4000000 in
set_option maxRecDepth 100000 in
theorem c_is (l : Launch) (D : va_G) (cy : Nat → ClassId) (sz : Nat) (h0 : Nat) (a1 : Nat) (a2 : Nat) (a3 : Nat) (a4 : Nat) (kf : Nat → Int32) (hk0 : kf 0 = 0) : Met l yX8_is (.code yX8_is cX8_is 2 (some .boolean) :: TB) ({ frames := 0, cells := 0, slots := 0, locals := 0 }) (va_Pc [.ref h0, .int 0] (fun U => U.heap.size = sz ∧ va_P D vwCl [(h0, .inr (8, [.ref a1, .ref a2, .ref a3, .ref a4, .int 0, .int 0, .int 0, .int 0, .int (-1)])), (a1, .inl (cy 1, 1601, .inl kf))] U.heap ∧ va_K D vwCl (TY cy) U ∧ va_D (fun _ => True) [(h0, .inr (8, [.ref a1, .ref a2, .ref a3, .ref a4, .int 0, .int 0, .int 0, .int 0, .int (-1)])), (a1, .inl (cy 1, 1601, .inl kf))])) (va_Qi (fun (r : Int32) (u : Unit) => r = 1) (fun (u : Unit) t => va_P D vwCl [(h0, .inr (8, [.ref a1, .ref a2, .ref a3, .ref a4, .int 0, .int 0, .int 0, .int 0, .int (-1)])), (a1, .inl (cy 1, 1601, .inl kf))] t.heap ∧ va_D (va_A [(h0, .inr (8, [.ref a1, .ref a2, .ref a3, .ref a4, .int 0, .int 0, .int 0, .int 0, .int (-1)])), (a1, .inl (cy 1, 1601, .inl kf))] sz) [(h0, .inr (8, [.ref a1, .ref a2, .ref a3, .ref a4, .int 0, .int 0, .int 0, .int 0, .int (-1)])), (a1, .inl (cy 1, 1601, .inl kf))]) (va_A [(h0, .inr (8, [.ref a1, .ref a2, .ref a3, .ref a4, .int 0, .int 0, .int 0, .int 0, .int (-1)])), (a1, .inl (cy 1, 1601, .inl kf))] sz)) 0 0 (va_A [(h0, .inr (8, [.ref a1, .ref a2, .ref a3, .ref a4, .int 0, .int 0, .int 0, .int 0, .int (-1)])), (a1, .inl (cy 1, 1601, .inl kf))] sz) := by
  refine Met.ofW (cc := cX8_is) (maxL := 2) (ret := (some .boolean)) (by decide) rfl ?_
  intro p e s m args below meth c s₁ B hml hv
  obtain ⟨rfl, hsz, hP, hK, hD0⟩ := hv
  have hx := B.exec
  have hb := B.bytes
  have hr := B.returns
  have hts := atoms_spec (ws := .code yX8_is cX8_is 2 (some .boolean) :: TB) B.pre
  have hT : ∀ w ∈ TB, w.before _ s = true := fun w h => hts w (List.mem_cons_of_mem _ h)
  have hown : s.vm.findClass "MakerStarts$Tokens" = some m.cls := findClass_of_methodNamed B.named
  have hlocks := B.notSynchronized
  subst hsz
  have hD := hD0.self (sz := s.heap.size)
  generalize hAe : va_A [(h0, .inr (8, [.ref a1, .ref a2, .ref a3, .ref a4, .int 0, .int 0, .int 0, .int 0, .int (-1)])), (a1, .inl (cy 1, 1601, .inl kf))] s.heap.size = A at hD  ⊢
  have hA : ∀ q : Nat, s.heap.size ≤ q → A q := fun q h => by rw [← hAe]; exact Or.inr h
  have hS : va_S A s.heap s.heap [] := va_S.rf
  have hP : va_P D vwCl [(h0, .inr (8, [.ref a1, .ref a2, .ref a3, .ref a4, .int 0, .int 0, .int 0, .int 0, .int (-1)])), (a1, .inl (cy 1, 1601, .inl kf))] s.heap := hP
  have hl := lv_entry ([.ref h0, .int 0]) (n := 2) (Nat.le_of_ble_eq_true rfl)
  rw [lg_entry_eq]
  generalize (lg_sl ([.ref h0, .int 0]) ++ List.replicate (2 - (lg_sl ([.ref h0, .int 0])).length) Slot.unset).toArray = ls at hl ⊢
  have hl : lv_has ls 2 [(0, .ref h0), (1, .int 0)] := hl
  refine lv_aload_n hx hb dX8_is_0 rfl (lv_at hl 0 rfl) ?_
  refine va_get (D := D) (ci := 8) (v := .int 0) (C := RX8) (T := TX8) (N := 9) hx hb hT i_TX8 hown hK hP 0 rfl rfl 7 (by decide) (hT _ t_323) (fun _ h9 => h9) rfl dX8_is_1 ?_
  refine lv_if_ne (tgt := 24) hx hb dX8_is_4 (by decide) (fun c9 => absurd (by decide) c9) (fun _ => ?_)
  refine lv_aload_n hx hb dX8_is_7 rfl (lv_at hl 0 rfl) ?_
  refine va_get (D := D) (ci := 8) (v := .ref a1) (C := RX8) (T := TX8) (N := 9) hx hb hT i_TX8 hown hK hP 0 rfl rfl 0 (by decide) (hT _ t_316) (fun _ h9 => h9) rfl dX8_is_8 ?_
  refine lv_aload_n hx hb dX8_is_11 rfl (lv_at hl 0 rfl) ?_
  refine va_get (D := D) (ci := 8) (v := .int 0) (C := RX8) (T := TX8) (N := 9) hx hb hT i_TX8 hown hK hP 0 rfl rfl 6 (by decide) (hT _ t_322) (fun _ h9 => h9) rfl dX8_is_12 ?_
  refine va_iald hx hb hK hP 1 1 rfl rfl (vp_in_iff.mpr (by decide)) dX8_is_15 ?_
  refine lv_topi (fun z1 e2 => ?_)
  obtain rfl : z1 = 0 := e2.trans hk0
  refine lv_iload_n hx hb dX8_is_16 rfl (lv_at hl 1 rfl) ?_
  refine lv_icmp_ne (tgt := 24) hx hb dX8_is_17 (by decide) (fun c9 => absurd (by decide) c9) (fun _ => ?_)
  refine lv_iconst (v := 1) hx hb dX8_is_20 (by decide) ?_
  refine lv_goto (tgt := 25) hx hb dX8_is_21 (by decide) ?_
  have hP9 := hP.sub (ws' := [(h0, .inr (8, [.ref a1, .ref a2, .ref a3, .ref a4, .int 0, .int 0, .int 0, .int 0, .int (-1)])), (a1, .inl (cy 1, 1601, .inl kf))]) [0, 1] rfl
  have hD9 := hD.sub (ws' := [(h0, .inr (8, [.ref a1, .ref a2, .ref a3, .ref a4, .int 0, .int 0, .int 0, .int 0, .int (-1)])), (a1, .inl (cy 1, 1601, .inl kf))]) [0, 1] (by decide) rfl
  refine W.widen (k := 0) (n := 0) (Nat.le_of_ble_eq_true rfl) (Nat.le_of_ble_eq_true rfl) ?_
  exact W.zret (v := 1) hx hb hr rfl (fun t ht hW => ⟨⟨1, (), rfl, rfl, by rw [ht]; exact hP9, hD9⟩, hS.F ht⟩) hS.2.2 dX8_is_25

set_option maxHeartbeats 4000000 in
set_option maxRecDepth 100000 in
theorem c_bbegin (l : Launch) (D : va_G) (cy : Nat → ClassId) (sz : Nat) (h0 : Nat) (a1 : Nat) (a2 : Nat) : Met l yX0_begin (.code yX0_begin cX0_begin 2 none :: TB) ({ frames := 0, cells := 0, slots := 0, locals := 0 }) (va_Pc [.ref h0, .ref a2] (fun U => U.heap.size = sz ∧ va_P D vwCl [(h0, .inr (1, [.ref a1, .null, .null, .int 0, .int 0, .int 0]))] U.heap ∧ va_K D vwCl (TY cy) U ∧ va_D (fun _ => True) [(h0, .inr (1, [.ref a1, .null, .null, .int 0, .int 0, .int 0]))])) (va_Qv (fun (u : Unit) => True) (fun (u : Unit) t => va_P D vwCl [(h0, .inr (1, [.ref a1, .ref a2, .null, .int 0, .int 0, .int 0]))] t.heap ∧ va_D (va_A [(h0, .inr (1, [.ref a1, .null, .null, .int 0, .int 0, .int 0]))] sz) [(h0, .inr (1, [.ref a1, .ref a2, .null, .int 0, .int 0, .int 0]))]) (va_A [(h0, .inr (1, [.ref a1, .null, .null, .int 0, .int 0, .int 0]))] sz)) 0 0 (va_A [(h0, .inr (1, [.ref a1, .null, .null, .int 0, .int 0, .int 0]))] sz) := by
  refine Met.ofW (cc := cX0_begin) (maxL := 2) (ret := none) (by decide) rfl ?_
  intro p e s m args below meth c s₁ B hml hv
  obtain ⟨rfl, hsz, hP, hK, hD0⟩ := hv
  have hx := B.exec
  have hb := B.bytes
  have hr := B.returns
  have hts := atoms_spec (ws := .code yX0_begin cX0_begin 2 none :: TB) B.pre
  have hT : ∀ w ∈ TB, w.before _ s = true := fun w h => hts w (List.mem_cons_of_mem _ h)
  have hown : s.vm.findClass "MakerStarts$Bodies" = some m.cls := findClass_of_methodNamed B.named
  have hlocks := B.notSynchronized
  subst hsz
  have hD := hD0.self (sz := s.heap.size)
  generalize hAe : va_A [(h0, .inr (1, [.ref a1, .null, .null, .int 0, .int 0, .int 0]))] s.heap.size = A at hD  ⊢
  have hA : ∀ q : Nat, s.heap.size ≤ q → A q := fun q h => by rw [← hAe]; exact Or.inr h
  have hS : va_S A s.heap s.heap [] := va_S.rf
  have hP : va_P D vwCl [(h0, .inr (1, [.ref a1, .null, .null, .int 0, .int 0, .int 0]))] s.heap := hP
  have hl := lv_entry ([.ref h0, .ref a2]) (n := 2) (Nat.le_of_ble_eq_true rfl)
  rw [lg_entry_eq]
  generalize (lg_sl ([.ref h0, .ref a2]) ++ List.replicate (2 - (lg_sl ([.ref h0, .ref a2])).length) Slot.unset).toArray = ls at hl ⊢
  have hl : lv_has ls 2 [(0, .ref h0), (1, .ref a2)] := hl
  refine lv_aload_n hx hb dX0_begin_0 rfl (lv_at hl 0 rfl) ?_
  refine lv_aload_n hx hb dX0_begin_1 rfl (lv_at hl 1 rfl) ?_
  refine va_put (D := D) (ci := 1) (v := .ref a2) (ty := .object "MakerStarts$Text") (C := RX0) (T := TX0) (N := 6) hx hb hT i_TX0 tyX0 tyX0_ok nmX0 hown hK hP hD hS 0 rfl rfl 1 (by decide) (hT _ t_355) (fun _ h9 => h9) rfl (by decide +kernel) rfl rfl (Nat.le_of_ble_eq_true rfl) dX0_begin_2 (fun H locs hP hD hS => ?_)
  have hP : va_P D vwCl [(h0, .inr (1, [.ref a1, .ref a2, .null, .int 0, .int 0, .int 0]))] H := hP
  have hD : va_D A [(h0, .inr (1, [.ref a1, .ref a2, .null, .int 0, .int 0, .int 0]))] := hD
  refine lv_aload_n hx hb dX0_begin_5 rfl (lv_at hl 0 rfl) ?_
  refine lv_iconst (v := 0) hx hb dX0_begin_6 (by decide) ?_
  refine va_put (D := D) (ci := 1) (v := .int 0) (ty := .int) (C := RX0) (T := TX0) (N := 6) hx hb hT i_TX0 tyX0 tyX0_ok nmX0 hown hK hP hD hS 0 rfl rfl 5 (by decide) (hT _ t_359) (fun _ h9 => h9) rfl (by decide +kernel) rfl rfl (Nat.le_of_ble_eq_true rfl) dX0_begin_7 (fun H locs hP hD hS => ?_)
  have hP : va_P D vwCl [(h0, .inr (1, [.ref a1, .ref a2, .null, .int 0, .int 0, .int 0]))] H := hP
  have hD : va_D A [(h0, .inr (1, [.ref a1, .ref a2, .null, .int 0, .int 0, .int 0]))] := hD
  refine lv_aload_n hx hb dX0_begin_10 rfl (lv_at hl 0 rfl) ?_
  refine lv_iconst (v := 0) hx hb dX0_begin_11 (by decide) ?_
  refine va_put (D := D) (ci := 1) (v := .int 0) (ty := .int) (C := RX0) (T := TX0) (N := 6) hx hb hT i_TX0 tyX0 tyX0_ok nmX0 hown hK hP hD hS 0 rfl rfl 4 (by decide) (hT _ t_358) (fun _ h9 => h9) rfl (by decide +kernel) rfl rfl (Nat.le_of_ble_eq_true rfl) dX0_begin_12 (fun H locs hP hD hS => ?_)
  have hP : va_P D vwCl [(h0, .inr (1, [.ref a1, .ref a2, .null, .int 0, .int 0, .int 0]))] H := hP
  have hD : va_D A [(h0, .inr (1, [.ref a1, .ref a2, .null, .int 0, .int 0, .int 0]))] := hD
  have hP9 := hP.sub (ws' := [(h0, .inr (1, [.ref a1, .ref a2, .null, .int 0, .int 0, .int 0]))]) [0] rfl
  have hD9 := hD.sub (ws' := [(h0, .inr (1, [.ref a1, .ref a2, .null, .int 0, .int 0, .int 0]))]) [0] (by decide) rfl
  refine W.widen (k := 0) (n := 0) (Nat.le_of_ble_eq_true rfl) (Nat.le_of_ble_eq_true rfl) ?_
  exact W.vret hx hb hr (fun t ht hW => ⟨⟨(), rfl, trivial, by rw [ht]; exact hP9, hD9⟩, hS.F ht⟩) hS.2.2 dX0_begin_15

set_option maxHeartbeats 4000000 in
set_option maxRecDepth 100000 in
theorem c_reads (l : Launch) (D : va_G) (cy : Nat → ClassId) (sz : Nat) (h0 : Nat) (za : Nat → Nat) (tp : Nat) (n0 : Nat) (n1 : Nat) (n2 : Nat) (n3 : Nat) (n4 : Nat) : Met l yX6_reads (.code yX6_reads cX6_reads 8 (some .boolean) :: TB) ({ frames := 2, cells := 0, slots := 0, locals := 46 }) (va_Pc [.ref h0, .ref tp, .int 0, .ref n0] (fun U => U.heap.size = sz ∧ va_P D vwCl [(h0, .inr (6, [.ref (za 0), .ref (za 1), .null])), ((za 0), .inr (8, [.ref (za 2), .ref (za 3), .ref (za 4), .ref (za 5), .int 0, .int 0, .int 0, .int 0, .int 0])), ((za 1), .inr (1, [.ref (za 0), .null, .null, .int 0, .int 0, .int 0])), ((za 2), .inl (cy 1, 1601, .inl (fun _ => 0))), ((za 3), .inl (cy 1, 1601, .inl (fun _ => 0))), (n0, .inr (7, [.ref n1, .int 0, .ref n2, .ref n3, .int 0, .ref n4, .int 0, .int 0, .int (-1)]))] U.heap ∧ va_K D vwCl (TY cy) U ∧ va_D (fun _ => True) [(h0, .inr (6, [.ref (za 0), .ref (za 1), .null])), ((za 0), .inr (8, [.ref (za 2), .ref (za 3), .ref (za 4), .ref (za 5), .int 0, .int 0, .int 0, .int 0, .int 0])), ((za 1), .inr (1, [.ref (za 0), .null, .null, .int 0, .int 0, .int 0])), ((za 2), .inl (cy 1, 1601, .inl (fun _ => 0))), ((za 3), .inl (cy 1, 1601, .inl (fun _ => 0))), (n0, .inr (7, [.ref n1, .int 0, .ref n2, .ref n3, .int 0, .ref n4, .int 0, .int 0, .int (-1)]))])) (va_Qi (fun (r : Int32) (u : Unit) => r = 1) (fun (u : Unit) t => va_P D vwCl [(n0, .inr (7, [.ref n1, .int 0, .ref n2, .ref n3, .int 0, .ref n4, .int 0, .int 0, .int (-1)]))] t.heap ∧ va_D (va_A [(h0, .inr (6, [.ref (za 0), .ref (za 1), .null])), ((za 0), .inr (8, [.ref (za 2), .ref (za 3), .ref (za 4), .ref (za 5), .int 0, .int 0, .int 0, .int 0, .int 0])), ((za 1), .inr (1, [.ref (za 0), .null, .null, .int 0, .int 0, .int 0])), ((za 2), .inl (cy 1, 1601, .inl (fun _ => 0))), ((za 3), .inl (cy 1, 1601, .inl (fun _ => 0))), (n0, .inr (7, [.ref n1, .int 0, .ref n2, .ref n3, .int 0, .ref n4, .int 0, .int 0, .int (-1)]))] sz) [(n0, .inr (7, [.ref n1, .int 0, .ref n2, .ref n3, .int 0, .ref n4, .int 0, .int 0, .int (-1)]))]) (va_A [(h0, .inr (6, [.ref (za 0), .ref (za 1), .null])), ((za 0), .inr (8, [.ref (za 2), .ref (za 3), .ref (za 4), .ref (za 5), .int 0, .int 0, .int 0, .int 0, .int 0])), ((za 1), .inr (1, [.ref (za 0), .null, .null, .int 0, .int 0, .int 0])), ((za 2), .inl (cy 1, 1601, .inl (fun _ => 0))), ((za 3), .inl (cy 1, 1601, .inl (fun _ => 0))), (n0, .inr (7, [.ref n1, .int 0, .ref n2, .ref n3, .int 0, .ref n4, .int 0, .int 0, .int (-1)]))] sz)) 0 0 (va_A [(h0, .inr (6, [.ref (za 0), .ref (za 1), .null])), ((za 0), .inr (8, [.ref (za 2), .ref (za 3), .ref (za 4), .ref (za 5), .int 0, .int 0, .int 0, .int 0, .int 0])), ((za 1), .inr (1, [.ref (za 0), .null, .null, .int 0, .int 0, .int 0])), ((za 2), .inl (cy 1, 1601, .inl (fun _ => 0))), ((za 3), .inl (cy 1, 1601, .inl (fun _ => 0))), (n0, .inr (7, [.ref n1, .int 0, .ref n2, .ref n3, .int 0, .ref n4, .int 0, .int 0, .int (-1)]))] sz) := by
  refine Met.ofW (cc := cX6_reads) (maxL := 8) (ret := (some .boolean)) (by decide) rfl ?_
  intro p e s m args below meth c s₁ B hml hv
  obtain ⟨rfl, hsz, hP, hK, hD0⟩ := hv
  have hx := B.exec
  have hb := B.bytes
  have hr := B.returns
  have hts := atoms_spec (ws := .code yX6_reads cX6_reads 8 (some .boolean) :: TB) B.pre
  have hT : ∀ w ∈ TB, w.before _ s = true := fun w h => hts w (List.mem_cons_of_mem _ h)
  have hown : s.vm.findClass "MakerStarts$Reader" = some m.cls := findClass_of_methodNamed B.named
  have hlocks := B.notSynchronized
  subst hsz
  have hD := hD0.self (sz := s.heap.size)
  generalize hAe : va_A [(h0, .inr (6, [.ref (za 0), .ref (za 1), .null])), ((za 0), .inr (8, [.ref (za 2), .ref (za 3), .ref (za 4), .ref (za 5), .int 0, .int 0, .int 0, .int 0, .int 0])), ((za 1), .inr (1, [.ref (za 0), .null, .null, .int 0, .int 0, .int 0])), ((za 2), .inl (cy 1, 1601, .inl (fun _ => 0))), ((za 3), .inl (cy 1, 1601, .inl (fun _ => 0))), (n0, .inr (7, [.ref n1, .int 0, .ref n2, .ref n3, .int 0, .ref n4, .int 0, .int 0, .int (-1)]))] s.heap.size = A at hD  ⊢
  have hA : ∀ q : Nat, s.heap.size ≤ q → A q := fun q h => by rw [← hAe]; exact Or.inr h
  have hS : va_S A s.heap s.heap [] := va_S.rf
  have hP : va_P D vwCl [(h0, .inr (6, [.ref (za 0), .ref (za 1), .null])), ((za 0), .inr (8, [.ref (za 2), .ref (za 3), .ref (za 4), .ref (za 5), .int 0, .int 0, .int 0, .int 0, .int 0])), ((za 1), .inr (1, [.ref (za 0), .null, .null, .int 0, .int 0, .int 0])), ((za 2), .inl (cy 1, 1601, .inl (fun _ => 0))), ((za 3), .inl (cy 1, 1601, .inl (fun _ => 0))), (n0, .inr (7, [.ref n1, .int 0, .ref n2, .ref n3, .int 0, .ref n4, .int 0, .int 0, .int (-1)]))] s.heap := hP
  have hl := lv_entry ([.ref h0, .ref tp, .int 0, .ref n0]) (n := 8) (Nat.le_of_ble_eq_true rfl)
  rw [lg_entry_eq]
  generalize (lg_sl ([.ref h0, .ref tp, .int 0, .ref n0]) ++ List.replicate (8 - (lg_sl ([.ref h0, .ref tp, .int 0, .ref n0])).length) Slot.unset).toArray = ls at hl ⊢
  have hl : lv_has ls 8 [(0, .ref h0), (1, .ref tp), (2, .int 0), (3, .ref n0)] := hl
  refine lv_aload_n hx hb dX6_reads_0 rfl (lv_at hl 0 rfl) ?_
  refine lv_aload_n hx hb dX6_reads_1 rfl (lv_at hl 3 rfl) ?_
  refine va_put (D := D) (ci := 6) (v := .ref n0) (ty := .object "MakerStarts$Text") (C := RX6) (T := TX6) (N := 3) hx hb hT i_TX6 tyX6 tyX6_ok nmX6 hown hK hP hD hS 0 rfl rfl 2 (by decide) (hT _ t_375) (fun _ h9 => h9) rfl (by decide +kernel) rfl rfl (Nat.le_of_ble_eq_true rfl) dX6_reads_2 (fun H locs hP hD hS => ?_)
  have hP : va_P D vwCl [(h0, .inr (6, [.ref (za 0), .ref (za 1), .ref n0])), ((za 0), .inr (8, [.ref (za 2), .ref (za 3), .ref (za 4), .ref (za 5), .int 0, .int 0, .int 0, .int 0, .int 0])), ((za 1), .inr (1, [.ref (za 0), .null, .null, .int 0, .int 0, .int 0])), ((za 2), .inl (cy 1, 1601, .inl (fun _ => 0))), ((za 3), .inl (cy 1, 1601, .inl (fun _ => 0))), (n0, .inr (7, [.ref n1, .int 0, .ref n2, .ref n3, .int 0, .ref n4, .int 0, .int 0, .int (-1)]))] H := hP
  have hD : va_D A [(h0, .inr (6, [.ref (za 0), .ref (za 1), .ref n0])), ((za 0), .inr (8, [.ref (za 2), .ref (za 3), .ref (za 4), .ref (za 5), .int 0, .int 0, .int 0, .int 0, .int 0])), ((za 1), .inr (1, [.ref (za 0), .null, .null, .int 0, .int 0, .int 0])), ((za 2), .inl (cy 1, 1601, .inl (fun _ => 0))), ((za 3), .inl (cy 1, 1601, .inl (fun _ => 0))), (n0, .inr (7, [.ref n1, .int 0, .ref n2, .ref n3, .int 0, .ref n4, .int 0, .int 0, .int (-1)]))] := hD
  refine lv_aload_n hx hb dX6_reads_5 rfl (lv_at hl 0 rfl) ?_
  refine va_get (D := D) (ci := 6) (v := .ref (za 0)) (C := RX6) (T := TX6) (N := 3) hx hb hT i_TX6 hown hK hP 0 rfl rfl 0 (by decide) (hT _ t_373) (fun _ h9 => h9) rfl dX6_reads_6 ?_
  refine lv_aload_n hx hb dX6_reads_9 rfl (lv_at hl 1 rfl) ?_
  refine lv_iload_n hx hb dX6_reads_10 rfl (lv_at hl 2 rfl) ?_
  have hPc := hP.sub (ws' := [((za 0), .inr (8, [.ref (za 2), .ref (za 3), .ref (za 4), .ref (za 5), .int 0, .int 0, .int 0, .int 0, .int 0])), ((za 2), .inl (cy 1, 1601, .inl (fun _ => 0))), ((za 3), .inl (cy 1, 1601, .inl (fun _ => 0)))]) [1, 3, 4] rfl
  have hDc := hD.sub (ws' := [((za 0), .inr (8, [.ref (za 2), .ref (za 3), .ref (za 4), .ref (za 5), .int 0, .int 0, .int 0, .int 0, .int 0])), ((za 2), .inl (cy 1, 1601, .inl (fun _ => 0))), ((za 3), .inl (cy 1, 1601, .inl (fun _ => 0)))]) [1, 3, 4] (by decide) rfl
  have hFc := va_free (wc := [((za 0), .inr (8, [.ref (za 2), .ref (za 3), .ref (za 4), .ref (za 5), .int 0, .int 0, .int 0, .int 0, .int 0])), ((za 2), .inl (cy 1, 1601, .inl (fun _ => 0))), ((za 3), .inl (cy 1, 1601, .inl (fun _ => 0)))]) hD hS hA [1, 3, 4] rfl
  refine va_callv (va_runV (As := [.ref tp, .int 0]) (rest := []) ⟨hx, hb, hml, hown, hT⟩ (c_scan l D cy H.size (za 0) (za 2) (za 3) (za 4) (za 5) tp) (cwV 2 hT (gTBV t_578 t_579 t_580 t_144 t_581) rfl rfl rfl (by decide +kernel) ⟨Nat.le_of_ble_eq_true rfl, Nat.le_of_ble_eq_true rfl⟩) ⟨fun a U g mk q => by obtain ⟨q0, q1, qP, qK, qD⟩ := q; exact ⟨q0, q1, qP, va_K.moved (u := U) (U := U.calling g mk a) (Vm.Alike.refl U.vm) qK, qD⟩, va_recv hK hPc (ci := 8) (q0 := 0) rfl rfl, fun U hU hW => ⟨rfl, by rw [hU], by rw [hU]; exact hPc, va_K.moved hW.alike hK, hDc.weaken (fun _ _ _ _ => trivial)⟩⟩ rfl rfl hl.1 rfl (lv_room (Nat.le_of_ble_eq_true rfl)) dX6_reads_11 ⟨Nat.le_of_ble_eq_true rfl, Nat.le_of_ble_eq_true rfl⟩) hS (fun q _ h => hFc q h) hFc (fun  u t H1 locs ht hvm w1 hB hz1 hk1 hS => ?_)
  obtain ⟨k2, rfl⟩ : ∃ z, z = u := ⟨_, rfl⟩
  obtain ⟨hP1, hD1⟩ := hB
  rw [ht] at hP1
  obtain ⟨hP, hD⟩ := va_join (wr := [(h0, .inr (6, [.ref (za 0), .ref (za 1), .ref n0])), ((za 1), .inr (1, [.ref (za 0), .null, .null, .int 0, .int 0, .int 0])), (n0, .inr (7, [.ref n1, .int 0, .ref n2, .ref n3, .int 0, .ref n4, .int 0, .int 0, .int (-1)]))]) (w1 := [((za 0), .inr (8, [.ref (za 2), .ref (za 3), .ref (za 4), .ref (za 5), .int 0, .int 0, .int 0, .int 0, .int (-1)])), ((za 2), .inl (cy 1, 1601, .inl k2))]) hP hD [1, 3, 4] [0, 2, 5] rfl rfl (by decide) (by decide) hk1 hFc hP1 hD1
  generalize H1 = H at hP hS ⊢
  have hP : va_P D vwCl [(h0, .inr (6, [.ref (za 0), .ref (za 1), .ref n0])), ((za 1), .inr (1, [.ref (za 0), .null, .null, .int 0, .int 0, .int 0])), (n0, .inr (7, [.ref n1, .int 0, .ref n2, .ref n3, .int 0, .ref n4, .int 0, .int 0, .int (-1)])), ((za 0), .inr (8, [.ref (za 2), .ref (za 3), .ref (za 4), .ref (za 5), .int 0, .int 0, .int 0, .int 0, .int (-1)])), ((za 2), .inl (cy 1, 1601, .inl k2))] H := hP
  have hD : va_D A [(h0, .inr (6, [.ref (za 0), .ref (za 1), .ref n0])), ((za 1), .inr (1, [.ref (za 0), .null, .null, .int 0, .int 0, .int 0])), (n0, .inr (7, [.ref n1, .int 0, .ref n2, .ref n3, .int 0, .ref n4, .int 0, .int 0, .int (-1)])), ((za 0), .inr (8, [.ref (za 2), .ref (za 3), .ref (za 4), .ref (za 5), .int 0, .int 0, .int 0, .int 0, .int (-1)])), ((za 2), .inl (cy 1, 1601, .inl k2))] := hD
  refine lv_aload_n hx hb dX6_reads_14 rfl (lv_at hl 0 rfl) ?_
  refine va_get (D := D) (ci := 6) (v := .ref (za 1)) (C := RX6) (T := TX6) (N := 3) hx hb hT i_TX6 hown hK hP 0 rfl rfl 1 (by decide) (hT _ t_374) (fun _ h9 => h9) rfl dX6_reads_15 ?_
  refine lv_aload_n hx hb dX6_reads_18 rfl (lv_at hl 3 rfl) ?_
  have hPc := hP.sub (ws' := [((za 1), .inr (1, [.ref (za 0), .null, .null, .int 0, .int 0, .int 0]))]) [1] rfl
  have hDc := hD.sub (ws' := [((za 1), .inr (1, [.ref (za 0), .null, .null, .int 0, .int 0, .int 0]))]) [1] (by decide) rfl
  have hFc := va_free (wc := [((za 1), .inr (1, [.ref (za 0), .null, .null, .int 0, .int 0, .int 0]))]) hD hS hA [1] rfl
  refine va_callv (va_runV (As := [.ref n0]) (rest := []) ⟨hx, hb, hml, hown, hT⟩ (c_bbegin l D cy H.size (za 1) (za 0) n0) (cwV 1 hT (gTBV t_665 t_666 t_667 t_149 t_668) rfl rfl rfl (by decide +kernel) ⟨Nat.le_of_ble_eq_true rfl, Nat.le_of_ble_eq_true rfl⟩) ⟨fun a U g mk q => by obtain ⟨q0, q1, qP, qK, qD⟩ := q; exact ⟨q0, q1, qP, va_K.moved (u := U) (U := U.calling g mk a) (Vm.Alike.refl U.vm) qK, qD⟩, va_recv hK hPc (ci := 1) (q0 := 0) rfl rfl, fun U hU hW => ⟨rfl, by rw [hU], by rw [hU]; exact hPc, va_K.moved hW.alike hK, hDc.weaken (fun _ _ _ _ => trivial)⟩⟩ rfl rfl hl.1 rfl (lv_room (Nat.le_of_ble_eq_true rfl)) dX6_reads_19 ⟨Nat.le_of_ble_eq_true rfl, Nat.le_of_ble_eq_true rfl⟩) hS (fun q _ h => hFc q h) hFc (fun  u t H1 locs ht hvm w3 hB hz1 hk1 hS => ?_)
  obtain ⟨hP1, hD1⟩ := hB
  rw [ht] at hP1
  obtain ⟨hP, hD⟩ := va_join (wr := [(h0, .inr (6, [.ref (za 0), .ref (za 1), .ref n0])), (n0, .inr (7, [.ref n1, .int 0, .ref n2, .ref n3, .int 0, .ref n4, .int 0, .int 0, .int (-1)])), ((za 0), .inr (8, [.ref (za 2), .ref (za 3), .ref (za 4), .ref (za 5), .int 0, .int 0, .int 0, .int 0, .int (-1)])), ((za 2), .inl (cy 1, 1601, .inl k2))]) (w1 := [((za 1), .inr (1, [.ref (za 0), .ref n0, .null, .int 0, .int 0, .int 0]))]) hP hD [1] [0, 2, 3, 4] rfl rfl (by decide) (by decide) hk1 hFc hP1 hD1
  generalize H1 = H at hP hS ⊢
  have hP : va_P D vwCl [(h0, .inr (6, [.ref (za 0), .ref (za 1), .ref n0])), (n0, .inr (7, [.ref n1, .int 0, .ref n2, .ref n3, .int 0, .ref n4, .int 0, .int 0, .int (-1)])), ((za 0), .inr (8, [.ref (za 2), .ref (za 3), .ref (za 4), .ref (za 5), .int 0, .int 0, .int 0, .int 0, .int (-1)])), ((za 2), .inl (cy 1, 1601, .inl k2)), ((za 1), .inr (1, [.ref (za 0), .ref n0, .null, .int 0, .int 0, .int 0]))] H := hP
  have hD : va_D A [(h0, .inr (6, [.ref (za 0), .ref (za 1), .ref n0])), (n0, .inr (7, [.ref n1, .int 0, .ref n2, .ref n3, .int 0, .ref n4, .int 0, .int 0, .int (-1)])), ((za 0), .inr (8, [.ref (za 2), .ref (za 3), .ref (za 4), .ref (za 5), .int 0, .int 0, .int 0, .int 0, .int (-1)])), ((za 2), .inl (cy 1, 1601, .inl k2)), ((za 1), .inr (1, [.ref (za 0), .ref n0, .null, .int 0, .int 0, .int 0]))] := hD
  refine lv_iconst (v := 0) hx hb dX6_reads_22 (by decide) ?_
  refine lv_istore (lv' := [(4, .int 0), (0, .ref h0), (1, .ref tp), (2, .int 0), (3, .ref n0)]) hx hb dX6_reads_23 hl (by decide) rfl (fun ls hl => ?_)
  refine lv_iload hx hb dX6_reads_25 (lv_at hl 0 rfl) ?_
  refine lv_bipush (v := 8) hx hb dX6_reads_27 (by decide) ?_
  refine lv_icmp_gt (tgt := 236) hx hb dX6_reads_29 (by decide) (fun c9 => absurd c9 (by decide)) (fun _ => ?_)
  refine lv_aload_n hx hb dX6_reads_32 rfl (lv_at hl 1 rfl) ?_
  refine va_get (D := D) (ci := 6) (v := .ref (za 0)) (C := RX6) (T := TX6) (N := 3) hx hb hT i_TX6 hown hK hP 0 rfl rfl 0 (by decide) (hT _ t_373) (fun _ h9 => h9) rfl dX6_reads_33 ?_
  refine lv_sipush (v := 256) hx hb dX6_reads_36 (by decide) ?_
  have hPc := hP.sub (ws' := [((za 0), .inr (8, [.ref (za 2), .ref (za 3), .ref (za 4), .ref (za 5), .int 0, .int 0, .int 0, .int 0, .int (-1)])), ((za 2), .inl (cy 1, 1601, .inl k2))]) [2, 3] rfl
  have hDc := hD.sub (ws' := [((za 0), .inr (8, [.ref (za 2), .ref (za 3), .ref (za 4), .ref (za 5), .int 0, .int 0, .int 0, .int 0, .int (-1)])), ((za 2), .inl (cy 1, 1601, .inl k2))]) [2, 3] (by decide) rfl
  have hFc := va_free (wc := [((za 0), .inr (8, [.ref (za 2), .ref (za 3), .ref (za 4), .ref (za 5), .int 0, .int 0, .int 0, .int 0, .int (-1)])), ((za 2), .inl (cy 1, 1601, .inl k2))]) hD hS hA [2, 3] rfl
  refine va_calli (va_runV (As := [.int 256]) (rest := []) ⟨hx, hb, hml, hown, hT⟩ (c_is256 l D cy H.size (za 0) (za 2) (za 3) (za 4) (za 5) k2 w1) (cwV 1 hT (gTBV t_669 t_670 t_671 t_144 t_672) rfl rfl rfl (by decide +kernel) ⟨Nat.le_of_ble_eq_true rfl, Nat.le_of_ble_eq_true rfl⟩) ⟨fun a U g mk q => by obtain ⟨q0, q1, qP, qK, qD⟩ := q; exact ⟨q0, q1, qP, va_K.moved (u := U) (U := U.calling g mk a) (Vm.Alike.refl U.vm) qK, qD⟩, va_recv hK hPc (ci := 8) (q0 := 0) rfl rfl, fun U hU hW => ⟨rfl, by rw [hU], by rw [hU]; exact hPc, va_K.moved hW.alike hK, hDc.weaken (fun _ _ _ _ => trivial)⟩⟩ rfl rfl hl.1 rfl (lv_room (Nat.le_of_ble_eq_true rfl)) dX6_reads_39 ⟨Nat.le_of_ble_eq_true rfl, Nat.le_of_ble_eq_true rfl⟩) hS (fun q _ h => hFc q h) hFc (fun r4 u t H1 locs ht hvm w5 hB hz1 hk1 hS => ?_)
  obtain ⟨hP1, hD1⟩ := hB
  rw [ht] at hP1
  obtain ⟨hP, hD⟩ := va_join (wr := [(h0, .inr (6, [.ref (za 0), .ref (za 1), .ref n0])), (n0, .inr (7, [.ref n1, .int 0, .ref n2, .ref n3, .int 0, .ref n4, .int 0, .int 0, .int (-1)])), ((za 1), .inr (1, [.ref (za 0), .ref n0, .null, .int 0, .int 0, .int 0]))]) (w1 := [((za 0), .inr (8, [.ref (za 2), .ref (za 3), .ref (za 4), .ref (za 5), .int 0, .int 0, .int 0, .int 0, .int (-1)])), ((za 2), .inl (cy 1, 1601, .inl k2))]) hP hD [2, 3] [0, 1, 4] rfl rfl (by decide) (by decide) hk1 hFc hP1 hD1
  generalize H1 = H at hP hS ⊢
  have hP : va_P D vwCl [(h0, .inr (6, [.ref (za 0), .ref (za 1), .ref n0])), (n0, .inr (7, [.ref n1, .int 0, .ref n2, .ref n3, .int 0, .ref n4, .int 0, .int 0, .int (-1)])), ((za 1), .inr (1, [.ref (za 0), .ref n0, .null, .int 0, .int 0, .int 0])), ((za 0), .inr (8, [.ref (za 2), .ref (za 3), .ref (za 4), .ref (za 5), .int 0, .int 0, .int 0, .int 0, .int (-1)])), ((za 2), .inl (cy 1, 1601, .inl k2))] H := hP
  have hD : va_D A [(h0, .inr (6, [.ref (za 0), .ref (za 1), .ref n0])), (n0, .inr (7, [.ref n1, .int 0, .ref n2, .ref n3, .int 0, .ref n4, .int 0, .int 0, .int (-1)])), ((za 1), .inr (1, [.ref (za 0), .ref n0, .null, .int 0, .int 0, .int 0])), ((za 0), .inr (8, [.ref (za 2), .ref (za 3), .ref (za 4), .ref (za 5), .int 0, .int 0, .int 0, .int 0, .int (-1)])), ((za 2), .inl (cy 1, 1601, .inl k2))] := hD
  obtain rfl := w5
  refine lv_if_eq (tgt := 236) hx hb dX6_reads_42 (by decide) (fun _ => ?_) (fun c9 => absurd (by decide) c9)
  refine lv_aload_n hx hb dX6_reads_236 rfl (lv_at hl 1 rfl) ?_
  refine va_get (D := D) (ci := 6) (v := .ref (za 0)) (C := RX6) (T := TX6) (N := 3) hx hb hT i_TX6 hown hK hP 0 rfl rfl 0 (by decide) (hT _ t_373) (fun _ h9 => h9) rfl dX6_reads_237 ?_
  refine lv_iconst (v := 0) hx hb dX6_reads_240 (by decide) ?_
  have hPc := hP.sub (ws' := [((za 0), .inr (8, [.ref (za 2), .ref (za 3), .ref (za 4), .ref (za 5), .int 0, .int 0, .int 0, .int 0, .int (-1)])), ((za 2), .inl (cy 1, 1601, .inl k2))]) [3, 4] rfl
  have hDc := hD.sub (ws' := [((za 0), .inr (8, [.ref (za 2), .ref (za 3), .ref (za 4), .ref (za 5), .int 0, .int 0, .int 0, .int 0, .int (-1)])), ((za 2), .inl (cy 1, 1601, .inl k2))]) [3, 4] (by decide) rfl
  have hFc := va_free (wc := [((za 0), .inr (8, [.ref (za 2), .ref (za 3), .ref (za 4), .ref (za 5), .int 0, .int 0, .int 0, .int 0, .int (-1)])), ((za 2), .inl (cy 1, 1601, .inl k2))]) hD hS hA [3, 4] rfl
  refine va_calli (va_runV (As := [.int 0]) (rest := []) ⟨hx, hb, hml, hown, hT⟩ (c_is l D cy H.size (za 0) (za 2) (za 3) (za 4) (za 5) k2 w1) (cwV 1 hT (gTBV t_669 t_670 t_671 t_144 t_672) rfl rfl rfl (by decide +kernel) ⟨Nat.le_of_ble_eq_true rfl, Nat.le_of_ble_eq_true rfl⟩) ⟨fun a U g mk q => by obtain ⟨q0, q1, qP, qK, qD⟩ := q; exact ⟨q0, q1, qP, va_K.moved (u := U) (U := U.calling g mk a) (Vm.Alike.refl U.vm) qK, qD⟩, va_recv hK hPc (ci := 8) (q0 := 0) rfl rfl, fun U hU hW => ⟨rfl, by rw [hU], by rw [hU]; exact hPc, va_K.moved hW.alike hK, hDc.weaken (fun _ _ _ _ => trivial)⟩⟩ rfl rfl hl.1 rfl (lv_room (Nat.le_of_ble_eq_true rfl)) dX6_reads_241 ⟨Nat.le_of_ble_eq_true rfl, Nat.le_of_ble_eq_true rfl⟩) hS (fun q _ h => hFc q h) hFc (fun r6 u t H1 locs ht hvm w7 hB hz1 hk1 hS => ?_)
  obtain ⟨hP1, hD1⟩ := hB
  rw [ht] at hP1
  obtain ⟨hP, hD⟩ := va_join (wr := [(h0, .inr (6, [.ref (za 0), .ref (za 1), .ref n0])), (n0, .inr (7, [.ref n1, .int 0, .ref n2, .ref n3, .int 0, .ref n4, .int 0, .int 0, .int (-1)])), ((za 1), .inr (1, [.ref (za 0), .ref n0, .null, .int 0, .int 0, .int 0]))]) (w1 := [((za 0), .inr (8, [.ref (za 2), .ref (za 3), .ref (za 4), .ref (za 5), .int 0, .int 0, .int 0, .int 0, .int (-1)])), ((za 2), .inl (cy 1, 1601, .inl k2))]) hP hD [3, 4] [0, 1, 2] rfl rfl (by decide) (by decide) hk1 hFc hP1 hD1
  generalize H1 = H at hP hS ⊢
  have hP : va_P D vwCl [(h0, .inr (6, [.ref (za 0), .ref (za 1), .ref n0])), (n0, .inr (7, [.ref n1, .int 0, .ref n2, .ref n3, .int 0, .ref n4, .int 0, .int 0, .int (-1)])), ((za 1), .inr (1, [.ref (za 0), .ref n0, .null, .int 0, .int 0, .int 0])), ((za 0), .inr (8, [.ref (za 2), .ref (za 3), .ref (za 4), .ref (za 5), .int 0, .int 0, .int 0, .int 0, .int (-1)])), ((za 2), .inl (cy 1, 1601, .inl k2))] H := hP
  have hD : va_D A [(h0, .inr (6, [.ref (za 0), .ref (za 1), .ref n0])), (n0, .inr (7, [.ref n1, .int 0, .ref n2, .ref n3, .int 0, .ref n4, .int 0, .int 0, .int (-1)])), ((za 1), .inr (1, [.ref (za 0), .ref n0, .null, .int 0, .int 0, .int 0])), ((za 0), .inr (8, [.ref (za 2), .ref (za 3), .ref (za 4), .ref (za 5), .int 0, .int 0, .int 0, .int 0, .int (-1)])), ((za 2), .inl (cy 1, 1601, .inl k2))] := hD
  obtain rfl := w7
  refine lv_if_ne (tgt := 277) hx hb dX6_reads_244 (by decide) (fun _ => ?_) (fun c9 => absurd c9 (by decide))
  refine lv_aload_n hx hb dX6_reads_277 rfl (lv_at hl 1 rfl) ?_
  refine va_get (D := D) (ci := 6) (v := .ref (za 0)) (C := RX6) (T := TX6) (N := 3) hx hb hT i_TX6 hown hK hP 0 rfl rfl 0 (by decide) (hT _ t_373) (fun _ h9 => h9) rfl dX6_reads_278 ?_
  refine va_get (D := D) (ci := 8) (v := .int 0) (C := RX8) (T := TX8) (N := 9) hx hb hT i_TX8 hown hK hP 3 rfl rfl 7 (by decide) (hT _ t_324) (fun _ h9 => h9) rfl dX6_reads_281 ?_
  refine lv_if_ne (tgt := 291) hx hb dX6_reads_284 (by decide) (fun c9 => absurd (by decide) c9) (fun _ => ?_)
  refine lv_iconst (v := 1) hx hb dX6_reads_287 (by decide) ?_
  refine lv_goto (tgt := 292) hx hb dX6_reads_288 (by decide) ?_
  have hP9 := hP.sub (ws' := [(n0, .inr (7, [.ref n1, .int 0, .ref n2, .ref n3, .int 0, .ref n4, .int 0, .int 0, .int (-1)]))]) [1] rfl
  have hD9 := hD.sub (ws' := [(n0, .inr (7, [.ref n1, .int 0, .ref n2, .ref n3, .int 0, .ref n4, .int 0, .int 0, .int (-1)]))]) [1] (by decide) rfl
  refine W.widen (k := 0) (n := 0) (Nat.le_of_ble_eq_true rfl) (Nat.le_of_ble_eq_true rfl) ?_
  exact W.zret (v := 1) hx hb hr rfl (fun t ht hW => ⟨⟨1, (), rfl, rfl, by rw [ht]; exact hP9, hD9⟩, hS.F ht⟩) hS.2.2 dX6_reads_292

set_option maxHeartbeats 4000000 in
set_option maxRecDepth 100000 in
theorem c_Judge (l : Launch) (D : va_G) (cy : Nat → ClassId) (sz : Nat) (h0 : Nat) (a1 : Nat) (a2 : Nat) (a3 : Nat) (a4 : Nat) (tE : Nat) : Met l yX3_judge (.code yX3_judge cX3_judge 4 none :: TB) ({ frames := 1, cells := 0, slots := 0, locals := 20 }) (va_Pc [.ref h0] (fun U => U.heap.size = sz ∧ va_P D vwCl [(h0, .inr (7, [.ref a1, .int 0, .ref a2, .ref a3, .int 0, .ref a4, .int 0, .int 0, .int (-1)])), (a2, .inr (0, [.int 1, .ref tE, .int 0]))] U.heap ∧ va_K D vwCl (TY cy) U ∧ va_D (fun _ => True) [(h0, .inr (7, [.ref a1, .int 0, .ref a2, .ref a3, .int 0, .ref a4, .int 0, .int 0, .int (-1)])), (a2, .inr (0, [.int 1, .ref tE, .int 0]))])) (va_Qv (fun (u : Unit) => True) (fun (u : Unit) t => va_P D vwCl [(h0, .inr (7, [.ref a1, .int 0, .ref a2, .ref a3, .int 0, .ref a4, .int 0, .int 0, .int (-1)])), (a2, .inr (0, [.int 1, .ref tE, .int 0]))] t.heap ∧ va_D (va_A [(h0, .inr (7, [.ref a1, .int 0, .ref a2, .ref a3, .int 0, .ref a4, .int 0, .int 0, .int (-1)])), (a2, .inr (0, [.int 1, .ref tE, .int 0]))] sz) [(h0, .inr (7, [.ref a1, .int 0, .ref a2, .ref a3, .int 0, .ref a4, .int 0, .int 0, .int (-1)])), (a2, .inr (0, [.int 1, .ref tE, .int 0]))]) (va_A [(h0, .inr (7, [.ref a1, .int 0, .ref a2, .ref a3, .int 0, .ref a4, .int 0, .int 0, .int (-1)])), (a2, .inr (0, [.int 1, .ref tE, .int 0]))] sz)) 0 0 (va_A [(h0, .inr (7, [.ref a1, .int 0, .ref a2, .ref a3, .int 0, .ref a4, .int 0, .int 0, .int (-1)])), (a2, .inr (0, [.int 1, .ref tE, .int 0]))] sz) := by
  refine Met.ofW (cc := cX3_judge) (maxL := 4) (ret := none) (by decide) rfl ?_
  intro p e s m args below meth c s₁ B hml hv
  obtain ⟨rfl, hsz, hP, hK, hD0⟩ := hv
  have hx := B.exec
  have hb := B.bytes
  have hr := B.returns
  have hts := atoms_spec (ws := .code yX3_judge cX3_judge 4 none :: TB) B.pre
  have hT : ∀ w ∈ TB, w.before _ s = true := fun w h => hts w (List.mem_cons_of_mem _ h)
  have hown : s.vm.findClass "MakerStarts$Judge" = some m.cls := findClass_of_methodNamed B.named
  have hlocks := B.notSynchronized
  subst hsz
  have hD := hD0.self (sz := s.heap.size)
  generalize hAe : va_A [(h0, .inr (7, [.ref a1, .int 0, .ref a2, .ref a3, .int 0, .ref a4, .int 0, .int 0, .int (-1)])), (a2, .inr (0, [.int 1, .ref tE, .int 0]))] s.heap.size = A at hD  ⊢
  have hA : ∀ q : Nat, s.heap.size ≤ q → A q := fun q h => by rw [← hAe]; exact Or.inr h
  have hS : va_S A s.heap s.heap [] := va_S.rf
  have hP : va_P D vwCl [(h0, .inr (7, [.ref a1, .int 0, .ref a2, .ref a3, .int 0, .ref a4, .int 0, .int 0, .int (-1)])), (a2, .inr (0, [.int 1, .ref tE, .int 0]))] s.heap := hP
  have hl := lv_entry ([.ref h0]) (n := 4) (Nat.le_of_ble_eq_true rfl)
  rw [lg_entry_eq]
  generalize (lg_sl ([.ref h0]) ++ List.replicate (4 - (lg_sl ([.ref h0])).length) Slot.unset).toArray = ls at hl ⊢
  have hl : lv_has ls 4 [(0, .ref h0)] := hl
  refine lv_iconst (v := 0) hx hb dX3_judge_0 (by decide) ?_
  refine lv_istore_n (lv' := [(1, .int 0), (0, .ref h0)]) hx hb dX3_judge_1 rfl hl (by decide) rfl (fun ls hl => ?_)
  refine lv_iload_n hx hb dX3_judge_2 rfl (lv_at hl 0 rfl) ?_
  refine lv_aload_n hx hb dX3_judge_3 rfl (lv_at hl 1 rfl) ?_
  refine va_get (D := D) (ci := 7) (v := .ref a2) (C := RX7) (T := TX7) (N := 9) hx hb hT i_TX7 hown hK hP 0 rfl rfl 2 (by decide) (hT _ t_219) (fun _ h9 => h9) rfl dX3_judge_4 ?_
  have hPc := hP.sub (ws' := [(a2, .inr (0, [.int 1, .ref tE, .int 0]))]) [1] rfl
  have hDc := hD.sub (ws' := [(a2, .inr (0, [.int 1, .ref tE, .int 0]))]) [1] (by decide) rfl
  have hFc := va_free (wc := [(a2, .inr (0, [.int 1, .ref tE, .int 0]))]) hD hS hA [1] rfl
  refine va_calli (va_runV (As := []) (rest := [.int 0]) ⟨hx, hb, hml, hown, hT⟩ (j_al_size l D cy s.heap.size a2 tE) (cwV 0 hT (gTBV t_1209 t_1153 t_1154 t_142 t_1155) rfl rfl rfl (by decide +kernel) ⟨Nat.le_of_ble_eq_true rfl, Nat.le_of_ble_eq_true rfl⟩) ⟨fun a U g mk q => by obtain ⟨q0, q1, qP, qK, qD⟩ := q; exact ⟨q0, q1, qP, va_K.moved (u := U) (U := U.calling g mk a) (Vm.Alike.refl U.vm) qK, qD⟩, va_recv hK hPc (ci := 0) (q0 := 0) rfl rfl, fun U hU hW => ⟨rfl, by rw [hU], by rw [hU]; exact hPc, va_K.moved hW.alike hK, hDc.weaken (fun _ _ _ _ => trivial)⟩⟩ rfl rfl hl.1 rfl (lv_room (Nat.le_of_ble_eq_true rfl)) dX3_judge_7 ⟨Nat.le_of_ble_eq_true rfl, Nat.le_of_ble_eq_true rfl⟩) hS (fun q _ h => hFc q h) hFc (fun r1 u t H1 locs ht hvm w2 hB hz1 hk1 hS => ?_)
  obtain ⟨hP1, hD1⟩ := hB
  rw [ht] at hP1
  obtain ⟨hP, hD⟩ := va_join (wr := [(h0, .inr (7, [.ref a1, .int 0, .ref a2, .ref a3, .int 0, .ref a4, .int 0, .int 0, .int (-1)]))]) (w1 := [(a2, .inr (0, [.int 1, .ref tE, .int 0]))]) hP hD [1] [0] rfl rfl (by decide) (by decide) hk1 hFc hP1 hD1
  generalize H1 = H at hP hS ⊢
  have hP : va_P D vwCl [(h0, .inr (7, [.ref a1, .int 0, .ref a2, .ref a3, .int 0, .ref a4, .int 0, .int 0, .int (-1)])), (a2, .inr (0, [.int 1, .ref tE, .int 0]))] H := hP
  have hD : va_D A [(h0, .inr (7, [.ref a1, .int 0, .ref a2, .ref a3, .int 0, .ref a4, .int 0, .int 0, .int (-1)])), (a2, .inr (0, [.int 1, .ref tE, .int 0]))] := hD
  obtain rfl := w2
  refine lv_icmp_ge (tgt := 34) hx hb dX3_judge_10 (by decide) (fun _ => ?_) (fun c9 => absurd (by decide) c9)
  refine lv_iconst (v := 0) hx hb dX3_judge_34 (by decide) ?_
  refine lv_istore_n (lv' := [(1, .int 0), (0, .ref h0)]) hx hb dX3_judge_35 rfl hl (by decide) rfl (fun ls hl => ?_)
  refine lv_iload_n hx hb dX3_judge_36 rfl (lv_at hl 0 rfl) ?_
  refine lv_aload_n hx hb dX3_judge_37 rfl (lv_at hl 1 rfl) ?_
  refine va_get (D := D) (ci := 7) (v := .int 0) (C := RX7) (T := TX7) (N := 9) hx hb hT i_TX7 hown hK hP 0 rfl rfl 1 (by decide) (hT _ t_215) (fun _ h9 => h9) rfl dX3_judge_38 ?_
  refine lv_icmp_ge (tgt := 105) hx hb dX3_judge_41 (by decide) (fun _ => ?_) (fun c9 => absurd (by decide) c9)
  refine lv_iconst (v := 0) hx hb dX3_judge_105 (by decide) ?_
  refine lv_istore_n (lv' := [(1, .int 0), (0, .ref h0)]) hx hb dX3_judge_106 rfl hl (by decide) rfl (fun ls hl => ?_)
  refine lv_iload_n hx hb dX3_judge_107 rfl (lv_at hl 0 rfl) ?_
  refine lv_aload_n hx hb dX3_judge_108 rfl (lv_at hl 1 rfl) ?_
  refine va_get (D := D) (ci := 7) (v := .int 0) (C := RX7) (T := TX7) (N := 9) hx hb hT i_TX7 hown hK hP 0 rfl rfl 1 (by decide) (hT _ t_215) (fun _ h9 => h9) rfl dX3_judge_109 ?_
  refine lv_icmp_ge (tgt := 153) hx hb dX3_judge_112 (by decide) (fun _ => ?_) (fun c9 => absurd (by decide) c9)
  have hP9 := hP.sub (ws' := [(h0, .inr (7, [.ref a1, .int 0, .ref a2, .ref a3, .int 0, .ref a4, .int 0, .int 0, .int (-1)])), (a2, .inr (0, [.int 1, .ref tE, .int 0]))]) [0, 1] rfl
  have hD9 := hD.sub (ws' := [(h0, .inr (7, [.ref a1, .int 0, .ref a2, .ref a3, .int 0, .ref a4, .int 0, .int 0, .int (-1)])), (a2, .inr (0, [.int 1, .ref tE, .int 0]))]) [0, 1] (by decide) rfl
  refine W.widen (k := 0) (n := 0) (Nat.le_of_ble_eq_true rfl) (Nat.le_of_ble_eq_true rfl) ?_
  exact W.vret hx hb hr (fun t ht hW => ⟨⟨(), rfl, trivial, by rw [ht]; exact hP9, hD9⟩, hS.F ht⟩) hS.2.2 dX3_judge_153

set_option maxHeartbeats 4000000 in
set_option maxRecDepth 100000 in
theorem c_Flow (l : Launch) (D : va_G) (cy : Nat → ClassId) (sz : Nat) (h0 : Nat) (a1 : Nat) (a2 : Nat) (a3 : Nat) (a4 : Nat) (g0 : Nat) (g1 : Nat) (g2 : Nat) : Met l yX1_judge (.code yX1_judge cX1_judge 6 none :: TB) ({ frames := 0, cells := 0, slots := 0, locals := 0 }) (va_Pc [.ref g0, .ref h0] (fun U => U.heap.size = sz ∧ va_P D vwCl [(h0, .inr (7, [.ref a1, .int 0, .ref a2, .ref a3, .int 0, .ref a4, .int 0, .int 0, .int (-1)])), (g0, .inr (2, [.ref g1, .ref g2, .int 0, .null]))] U.heap ∧ va_K D vwCl (TY cy) U ∧ va_D (fun _ => True) [(h0, .inr (7, [.ref a1, .int 0, .ref a2, .ref a3, .int 0, .ref a4, .int 0, .int 0, .int (-1)])), (g0, .inr (2, [.ref g1, .ref g2, .int 0, .null]))])) (va_Qv (fun (u : Unit) => True) (fun (u : Unit) t => va_P D vwCl [(h0, .inr (7, [.ref a1, .int 0, .ref a2, .ref a3, .int 0, .ref a4, .int 0, .int 0, .int (-1)]))] t.heap ∧ va_D (va_A [(h0, .inr (7, [.ref a1, .int 0, .ref a2, .ref a3, .int 0, .ref a4, .int 0, .int 0, .int (-1)])), (g0, .inr (2, [.ref g1, .ref g2, .int 0, .null]))] sz) [(h0, .inr (7, [.ref a1, .int 0, .ref a2, .ref a3, .int 0, .ref a4, .int 0, .int 0, .int (-1)]))]) (va_A [(h0, .inr (7, [.ref a1, .int 0, .ref a2, .ref a3, .int 0, .ref a4, .int 0, .int 0, .int (-1)])), (g0, .inr (2, [.ref g1, .ref g2, .int 0, .null]))] sz)) 0 0 (va_A [(h0, .inr (7, [.ref a1, .int 0, .ref a2, .ref a3, .int 0, .ref a4, .int 0, .int 0, .int (-1)])), (g0, .inr (2, [.ref g1, .ref g2, .int 0, .null]))] sz) := by
  refine Met.ofW (cc := cX1_judge) (maxL := 6) (ret := none) (by decide) rfl ?_
  intro p e s m args below meth c s₁ B hml hv
  obtain ⟨rfl, hsz, hP, hK, hD0⟩ := hv
  have hx := B.exec
  have hb := B.bytes
  have hr := B.returns
  have hts := atoms_spec (ws := .code yX1_judge cX1_judge 6 none :: TB) B.pre
  have hT : ∀ w ∈ TB, w.before _ s = true := fun w h => hts w (List.mem_cons_of_mem _ h)
  have hown : s.vm.findClass "MakerStarts$Flow" = some m.cls := findClass_of_methodNamed B.named
  have hlocks := B.notSynchronized
  subst hsz
  have hD := hD0.self (sz := s.heap.size)
  generalize hAe : va_A [(h0, .inr (7, [.ref a1, .int 0, .ref a2, .ref a3, .int 0, .ref a4, .int 0, .int 0, .int (-1)])), (g0, .inr (2, [.ref g1, .ref g2, .int 0, .null]))] s.heap.size = A at hD  ⊢
  have hA : ∀ q : Nat, s.heap.size ≤ q → A q := fun q h => by rw [← hAe]; exact Or.inr h
  have hS : va_S A s.heap s.heap [] := va_S.rf
  have hP : va_P D vwCl [(h0, .inr (7, [.ref a1, .int 0, .ref a2, .ref a3, .int 0, .ref a4, .int 0, .int 0, .int (-1)])), (g0, .inr (2, [.ref g1, .ref g2, .int 0, .null]))] s.heap := hP
  have hl := lv_entry ([.ref g0, .ref h0]) (n := 6) (Nat.le_of_ble_eq_true rfl)
  rw [lg_entry_eq]
  generalize (lg_sl ([.ref g0, .ref h0]) ++ List.replicate (6 - (lg_sl ([.ref g0, .ref h0])).length) Slot.unset).toArray = ls at hl ⊢
  have hl : lv_has ls 6 [(0, .ref g0), (1, .ref h0)] := hl
  refine lv_aload_n hx hb dX1_judge_0 rfl (lv_at hl 0 rfl) ?_
  refine lv_aload_n hx hb dX1_judge_1 rfl (lv_at hl 1 rfl) ?_
  refine va_put (D := D) (ci := 2) (v := .ref h0) (ty := .object "MakerStarts$Text") (C := RX1) (T := TX1) (N := 4) hx hb hT i_TX1 tyX1 tyX1_ok nmX1 hown hK hP hD hS 1 rfl rfl 3 (by decide) (hT _ t_392) (fun _ h9 => h9) rfl (by decide +kernel) rfl rfl (Nat.le_of_ble_eq_true rfl) dX1_judge_2 (fun H locs hP hD hS => ?_)
  have hP : va_P D vwCl [(h0, .inr (7, [.ref a1, .int 0, .ref a2, .ref a3, .int 0, .ref a4, .int 0, .int 0, .int (-1)])), (g0, .inr (2, [.ref g1, .ref g2, .int 0, .ref h0]))] H := hP
  have hD : va_D A [(h0, .inr (7, [.ref a1, .int 0, .ref a2, .ref a3, .int 0, .ref a4, .int 0, .int 0, .int (-1)])), (g0, .inr (2, [.ref g1, .ref g2, .int 0, .ref h0]))] := hD
  refine lv_iconst (v := 0) hx hb dX1_judge_5 (by decide) ?_
  refine lv_istore_n (lv' := [(2, .int 0), (0, .ref g0), (1, .ref h0)]) hx hb dX1_judge_6 rfl hl (by decide) rfl (fun ls hl => ?_)
  refine lv_iload_n hx hb dX1_judge_7 rfl (lv_at hl 0 rfl) ?_
  refine lv_aload_n hx hb dX1_judge_8 rfl (lv_at hl 2 rfl) ?_
  refine va_get (D := D) (ci := 7) (v := .int 0) (C := RX7) (T := TX7) (N := 9) hx hb hT i_TX7 hown hK hP 0 rfl rfl 1 (by decide) (hT _ t_213) (fun _ h9 => h9) rfl dX1_judge_9 ?_
  refine lv_icmp_ge (tgt := 116) hx hb dX1_judge_12 (by decide) (fun _ => ?_) (fun c9 => absurd (by decide) c9)
  have hP9 := hP.sub (ws' := [(h0, .inr (7, [.ref a1, .int 0, .ref a2, .ref a3, .int 0, .ref a4, .int 0, .int 0, .int (-1)]))]) [0] rfl
  have hD9 := hD.sub (ws' := [(h0, .inr (7, [.ref a1, .int 0, .ref a2, .ref a3, .int 0, .ref a4, .int 0, .int 0, .int (-1)]))]) [0] (by decide) rfl
  refine W.widen (k := 0) (n := 0) (Nat.le_of_ble_eq_true rfl) (Nat.le_of_ble_eq_true rfl) ?_
  exact W.vret hx hb hr (fun t ht hW => ⟨⟨(), rfl, trivial, by rw [ht]; exact hP9, hD9⟩, hS.F ht⟩) hS.2.2 dX1_judge_116

set_option maxHeartbeats 4000000 in
set_option maxRecDepth 100000 in
theorem c_link (l : Launch) (D : va_G) (cy : Nat → ClassId) (sz : Nat) (h0 : Nat) (a1 : Nat) (a2 : Nat) (a3 : Nat) (a4 : Nat) (tE : Nat) : Met l yX7_link (.code yX7_link cX7_link 3 none :: TB) ({ frames := 1, cells := 0, slots := 0, locals := 20 }) (va_Pc [.ref h0] (fun U => U.heap.size = sz ∧ va_P D vwCl [(h0, .inr (7, [.ref a1, .int 0, .ref a2, .ref a3, .int 0, .ref a4, .int 0, .int 0, .int (-1)])), (a2, .inr (0, [.int 1, .ref tE, .int 0]))] U.heap ∧ va_K D vwCl (TY cy) U ∧ va_D (fun _ => True) [(h0, .inr (7, [.ref a1, .int 0, .ref a2, .ref a3, .int 0, .ref a4, .int 0, .int 0, .int (-1)])), (a2, .inr (0, [.int 1, .ref tE, .int 0]))])) (va_Qv (fun (u : Unit) => True) (fun (u : Unit) t => va_P D vwCl [(h0, .inr (7, [.ref a1, .int 0, .ref a2, .ref a3, .int 0, .ref a4, .int 0, .int 0, .int (-1)]))] t.heap ∧ va_D (va_A [(h0, .inr (7, [.ref a1, .int 0, .ref a2, .ref a3, .int 0, .ref a4, .int 0, .int 0, .int (-1)])), (a2, .inr (0, [.int 1, .ref tE, .int 0]))] sz) [(h0, .inr (7, [.ref a1, .int 0, .ref a2, .ref a3, .int 0, .ref a4, .int 0, .int 0, .int (-1)]))]) (va_A [(h0, .inr (7, [.ref a1, .int 0, .ref a2, .ref a3, .int 0, .ref a4, .int 0, .int 0, .int (-1)])), (a2, .inr (0, [.int 1, .ref tE, .int 0]))] sz)) 0 0 (va_A [(h0, .inr (7, [.ref a1, .int 0, .ref a2, .ref a3, .int 0, .ref a4, .int 0, .int 0, .int (-1)])), (a2, .inr (0, [.int 1, .ref tE, .int 0]))] sz) := by
  refine Met.ofW (cc := cX7_link) (maxL := 3) (ret := none) (by decide) rfl ?_
  intro p e s m args below meth c s₁ B hml hv
  obtain ⟨rfl, hsz, hP, hK, hD0⟩ := hv
  have hx := B.exec
  have hb := B.bytes
  have hr := B.returns
  have hts := atoms_spec (ws := .code yX7_link cX7_link 3 none :: TB) B.pre
  have hT : ∀ w ∈ TB, w.before _ s = true := fun w h => hts w (List.mem_cons_of_mem _ h)
  have hown : s.vm.findClass "MakerStarts$Text" = some m.cls := findClass_of_methodNamed B.named
  have hlocks := B.notSynchronized
  subst hsz
  have hD := hD0.self (sz := s.heap.size)
  generalize hAe : va_A [(h0, .inr (7, [.ref a1, .int 0, .ref a2, .ref a3, .int 0, .ref a4, .int 0, .int 0, .int (-1)])), (a2, .inr (0, [.int 1, .ref tE, .int 0]))] s.heap.size = A at hD  ⊢
  have hA : ∀ q : Nat, s.heap.size ≤ q → A q := fun q h => by rw [← hAe]; exact Or.inr h
  have hS : va_S A s.heap s.heap [] := va_S.rf
  have hP : va_P D vwCl [(h0, .inr (7, [.ref a1, .int 0, .ref a2, .ref a3, .int 0, .ref a4, .int 0, .int 0, .int (-1)])), (a2, .inr (0, [.int 1, .ref tE, .int 0]))] s.heap := hP
  have hl := lv_entry ([.ref h0]) (n := 3) (Nat.le_of_ble_eq_true rfl)
  rw [lg_entry_eq]
  generalize (lg_sl ([.ref h0]) ++ List.replicate (3 - (lg_sl ([.ref h0])).length) Slot.unset).toArray = ls at hl ⊢
  have hl : lv_has ls 3 [(0, .ref h0)] := hl
  refine lv_iconst (v := 0) hx hb dX7_link_0 (by decide) ?_
  refine lv_istore_n (lv' := [(1, .int 0), (0, .ref h0)]) hx hb dX7_link_1 rfl hl (by decide) rfl (fun ls hl => ?_)
  refine lv_iload_n hx hb dX7_link_2 rfl (lv_at hl 0 rfl) ?_
  refine lv_aload_n hx hb dX7_link_3 rfl (lv_at hl 1 rfl) ?_
  refine va_get (D := D) (ci := 7) (v := .ref a2) (C := RX7) (T := TX7) (N := 9) hx hb hT i_TX7 hown hK hP 0 rfl rfl 2 (by decide) (hT _ t_218) (fun _ h9 => h9) rfl dX7_link_4 ?_
  have hPc := hP.sub (ws' := [(a2, .inr (0, [.int 1, .ref tE, .int 0]))]) [1] rfl
  have hDc := hD.sub (ws' := [(a2, .inr (0, [.int 1, .ref tE, .int 0]))]) [1] (by decide) rfl
  have hFc := va_free (wc := [(a2, .inr (0, [.int 1, .ref tE, .int 0]))]) hD hS hA [1] rfl
  refine va_calli (va_runV (As := []) (rest := [.int 0]) ⟨hx, hb, hml, hown, hT⟩ (j_al_size l D cy s.heap.size a2 tE) (cwV 0 hT (gTBV t_1306 t_1153 t_1154 t_142 t_1155) rfl rfl rfl (by decide +kernel) ⟨Nat.le_of_ble_eq_true rfl, Nat.le_of_ble_eq_true rfl⟩) ⟨fun a U g mk q => by obtain ⟨q0, q1, qP, qK, qD⟩ := q; exact ⟨q0, q1, qP, va_K.moved (u := U) (U := U.calling g mk a) (Vm.Alike.refl U.vm) qK, qD⟩, va_recv hK hPc (ci := 0) (q0 := 0) rfl rfl, fun U hU hW => ⟨rfl, by rw [hU], by rw [hU]; exact hPc, va_K.moved hW.alike hK, hDc.weaken (fun _ _ _ _ => trivial)⟩⟩ rfl rfl hl.1 rfl (lv_room (Nat.le_of_ble_eq_true rfl)) dX7_link_7 ⟨Nat.le_of_ble_eq_true rfl, Nat.le_of_ble_eq_true rfl⟩) hS (fun q _ h => hFc q h) hFc (fun r1 u t H1 locs ht hvm w2 hB hz1 hk1 hS => ?_)
  obtain ⟨hP1, hD1⟩ := hB
  rw [ht] at hP1
  obtain ⟨hP, hD⟩ := va_join (wr := [(h0, .inr (7, [.ref a1, .int 0, .ref a2, .ref a3, .int 0, .ref a4, .int 0, .int 0, .int (-1)]))]) (w1 := [(a2, .inr (0, [.int 1, .ref tE, .int 0]))]) hP hD [1] [0] rfl rfl (by decide) (by decide) hk1 hFc hP1 hD1
  generalize H1 = H at hP hS ⊢
  have hP : va_P D vwCl [(h0, .inr (7, [.ref a1, .int 0, .ref a2, .ref a3, .int 0, .ref a4, .int 0, .int 0, .int (-1)])), (a2, .inr (0, [.int 1, .ref tE, .int 0]))] H := hP
  have hD : va_D A [(h0, .inr (7, [.ref a1, .int 0, .ref a2, .ref a3, .int 0, .ref a4, .int 0, .int 0, .int (-1)])), (a2, .inr (0, [.int 1, .ref tE, .int 0]))] := hD
  obtain rfl := w2
  refine lv_icmp_ge (tgt := 57) hx hb dX7_link_10 (by decide) (fun _ => ?_) (fun c9 => absurd (by decide) c9)
  have hP9 := hP.sub (ws' := [(h0, .inr (7, [.ref a1, .int 0, .ref a2, .ref a3, .int 0, .ref a4, .int 0, .int 0, .int (-1)]))]) [0] rfl
  have hD9 := hD.sub (ws' := [(h0, .inr (7, [.ref a1, .int 0, .ref a2, .ref a3, .int 0, .ref a4, .int 0, .int 0, .int (-1)]))]) [0] (by decide) rfl
  refine W.widen (k := 0) (n := 0) (Nat.le_of_ble_eq_true rfl) (Nat.le_of_ble_eq_true rfl) ?_
  exact W.vret hx hb hr (fun t ht hW => ⟨⟨(), rfl, trivial, by rw [ht]; exact hP9, hD9⟩, hS.F ht⟩) hS.2.2 dX7_link_57

set_option maxHeartbeats 4000000 in
set_option maxRecDepth 100000 in
theorem c_order (l : Launch) (D : va_G) (cy : Nat → ClassId) (sz : Nat) (h0 : Nat) (a1 : Nat) (a2 : Nat) (a3 : Nat) (a4 : Nat) : Met l yX7_order (.code yX7_order cX7_order 4 none :: TB) ({ frames := 0, cells := 0, slots := 0, locals := 0 }) (va_Pc [.ref h0] (fun U => U.heap.size = sz ∧ va_P D vwCl [(h0, .inr (7, [.ref a1, .int 0, .ref a2, .ref a3, .int 0, .ref a4, .int 0, .int 0, .int (-1)]))] U.heap ∧ va_K D vwCl (TY cy) U ∧ va_D (fun _ => True) [(h0, .inr (7, [.ref a1, .int 0, .ref a2, .ref a3, .int 0, .ref a4, .int 0, .int 0, .int (-1)]))])) (va_Qv (fun (u : Unit) => True) (fun (u : Unit) t => va_P D vwCl [(h0, .inr (7, [.ref a1, .int 0, .ref a2, .ref a3, .int 0, .ref a4, .int 0, .int 0, .int (-1)]))] t.heap ∧ va_D (va_A [(h0, .inr (7, [.ref a1, .int 0, .ref a2, .ref a3, .int 0, .ref a4, .int 0, .int 0, .int (-1)]))] sz) [(h0, .inr (7, [.ref a1, .int 0, .ref a2, .ref a3, .int 0, .ref a4, .int 0, .int 0, .int (-1)]))]) (va_A [(h0, .inr (7, [.ref a1, .int 0, .ref a2, .ref a3, .int 0, .ref a4, .int 0, .int 0, .int (-1)]))] sz)) 0 0 (va_A [(h0, .inr (7, [.ref a1, .int 0, .ref a2, .ref a3, .int 0, .ref a4, .int 0, .int 0, .int (-1)]))] sz) := by
  refine Met.ofW (cc := cX7_order) (maxL := 4) (ret := none) (by decide) rfl ?_
  intro p e s m args below meth c s₁ B hml hv
  obtain ⟨rfl, hsz, hP, hK, hD0⟩ := hv
  have hx := B.exec
  have hb := B.bytes
  have hr := B.returns
  have hts := atoms_spec (ws := .code yX7_order cX7_order 4 none :: TB) B.pre
  have hT : ∀ w ∈ TB, w.before _ s = true := fun w h => hts w (List.mem_cons_of_mem _ h)
  have hown : s.vm.findClass "MakerStarts$Text" = some m.cls := findClass_of_methodNamed B.named
  have hlocks := B.notSynchronized
  subst hsz
  have hD := hD0.self (sz := s.heap.size)
  generalize hAe : va_A [(h0, .inr (7, [.ref a1, .int 0, .ref a2, .ref a3, .int 0, .ref a4, .int 0, .int 0, .int (-1)]))] s.heap.size = A at hD  ⊢
  have hA : ∀ q : Nat, s.heap.size ≤ q → A q := fun q h => by rw [← hAe]; exact Or.inr h
  have hS : va_S A s.heap s.heap [] := va_S.rf
  have hP : va_P D vwCl [(h0, .inr (7, [.ref a1, .int 0, .ref a2, .ref a3, .int 0, .ref a4, .int 0, .int 0, .int (-1)]))] s.heap := hP
  have hl := lv_entry ([.ref h0]) (n := 4) (Nat.le_of_ble_eq_true rfl)
  rw [lg_entry_eq]
  generalize (lg_sl ([.ref h0]) ++ List.replicate (4 - (lg_sl ([.ref h0])).length) Slot.unset).toArray = ls at hl ⊢
  have hl : lv_has ls 4 [(0, .ref h0)] := hl
  refine lv_iconst (v := 0) hx hb dX7_order_0 (by decide) ?_
  refine lv_istore_n (lv' := [(1, .int 0), (0, .ref h0)]) hx hb dX7_order_1 rfl hl (by decide) rfl (fun ls hl => ?_)
  refine lv_iload_n hx hb dX7_order_2 rfl (lv_at hl 0 rfl) ?_
  refine lv_aload_n hx hb dX7_order_3 rfl (lv_at hl 1 rfl) ?_
  refine va_get (D := D) (ci := 7) (v := .int 0) (C := RX7) (T := TX7) (N := 9) hx hb hT i_TX7 hown hK hP 0 rfl rfl 1 (by decide) (hT _ t_214) (fun _ h9 => h9) rfl dX7_order_4 ?_
  refine lv_icmp_ge (tgt := 117) hx hb dX7_order_7 (by decide) (fun _ => ?_) (fun c9 => absurd (by decide) c9)
  have hP9 := hP.sub (ws' := [(h0, .inr (7, [.ref a1, .int 0, .ref a2, .ref a3, .int 0, .ref a4, .int 0, .int 0, .int (-1)]))]) [0] rfl
  have hD9 := hD.sub (ws' := [(h0, .inr (7, [.ref a1, .int 0, .ref a2, .ref a3, .int 0, .ref a4, .int 0, .int 0, .int (-1)]))]) [0] (by decide) rfl
  refine W.widen (k := 0) (n := 0) (Nat.le_of_ble_eq_true rfl) (Nat.le_of_ble_eq_true rfl) ?_
  exact W.vret hx hb hr (fun t ht hW => ⟨⟨(), rfl, trivial, by rw [ht]; exact hP9, hD9⟩, hS.F ht⟩) hS.2.2 dX7_order_117

set_option maxHeartbeats 4000000 in
set_option maxRecDepth 100000 in
theorem c_memberAt (l : Launch) (D : va_G) (cy : Nat → ClassId) (sz : Nat) (h0 : Nat) (a1 : Nat) (a2 : Nat) (a3 : Nat) (a4 : Nat) (p0 : Int32) (h9 : 0 ≤ p0) : Met l yX7_memberAt (.code yX7_memberAt cX7_memberAt 3 (some (.object "MakerStarts$Member")) :: TB) ({ frames := 1, cells := 0, slots := 0, locals := 21 }) (va_Pc [.ref h0, .int p0] (fun U => U.heap.size = sz ∧ va_P D vwCl [(h0, .inr (7, [.ref a1, .int 0, .ref a2, .ref a3, .int 0, .ref a4, .int 0, .int 0, .int (-1)]))] U.heap ∧ va_K D vwCl (TY cy) U ∧ va_D (fun _ => True) [(h0, .inr (7, [.ref a1, .int 0, .ref a2, .ref a3, .int 0, .ref a4, .int 0, .int 0, .int (-1)]))])) (va_Qq (fun (r : Option Nat) (u : Unit) => r = none) (fun (u : Unit) t => va_P D vwCl [(h0, .inr (7, [.ref a1, .int 0, .ref a2, .ref a3, .int 0, .ref a4, .int 0, .int 0, .int (-1)]))] t.heap ∧ va_D (va_A [(h0, .inr (7, [.ref a1, .int 0, .ref a2, .ref a3, .int 0, .ref a4, .int 0, .int 0, .int (-1)]))] sz) [(h0, .inr (7, [.ref a1, .int 0, .ref a2, .ref a3, .int 0, .ref a4, .int 0, .int 0, .int (-1)]))]) (va_A [(h0, .inr (7, [.ref a1, .int 0, .ref a2, .ref a3, .int 0, .ref a4, .int 0, .int 0, .int (-1)]))] sz)) 0 0 (va_A [(h0, .inr (7, [.ref a1, .int 0, .ref a2, .ref a3, .int 0, .ref a4, .int 0, .int 0, .int (-1)]))] sz) := by
  refine Met.ofW (cc := cX7_memberAt) (maxL := 3) (ret := (some (.object "MakerStarts$Member"))) (by decide) rfl ?_
  intro p e s m args below meth c s₁ B hml hv
  obtain ⟨rfl, hsz, hP, hK, hD0⟩ := hv
  have hx := B.exec
  have hb := B.bytes
  have hr := B.returns
  have hts := atoms_spec (ws := .code yX7_memberAt cX7_memberAt 3 (some (.object "MakerStarts$Member")) :: TB) B.pre
  have hT : ∀ w ∈ TB, w.before _ s = true := fun w h => hts w (List.mem_cons_of_mem _ h)
  have hown : s.vm.findClass "MakerStarts$Text" = some m.cls := findClass_of_methodNamed B.named
  have hlocks := B.notSynchronized
  subst hsz
  have hD := hD0.self (sz := s.heap.size)
  generalize hAe : va_A [(h0, .inr (7, [.ref a1, .int 0, .ref a2, .ref a3, .int 0, .ref a4, .int 0, .int 0, .int (-1)]))] s.heap.size = A at hD  ⊢
  have hA : ∀ q : Nat, s.heap.size ≤ q → A q := fun q h => by rw [← hAe]; exact Or.inr h
  have hS : va_S A s.heap s.heap [] := va_S.rf
  have hP : va_P D vwCl [(h0, .inr (7, [.ref a1, .int 0, .ref a2, .ref a3, .int 0, .ref a4, .int 0, .int 0, .int (-1)]))] s.heap := hP
  have hl := lv_entry ([.ref h0, .int p0]) (n := 3) (Nat.le_of_ble_eq_true rfl)
  rw [lg_entry_eq]
  generalize (lg_sl ([.ref h0, .int p0]) ++ List.replicate (3 - (lg_sl ([.ref h0, .int p0])).length) Slot.unset).toArray = ls at hl ⊢
  have hl : lv_has ls 3 [(0, .ref h0), (1, .int p0)] := hl
  refine lv_iload_n hx hb dX7_memberAt_0 rfl (lv_at hl 1 rfl) ?_
  refine lv_if_ge (tgt := 8) hx hb dX7_memberAt_1 (by decide) (fun _ => ?_) (fun c9 => absurd h9 c9)
  refine lv_aload_n hx hb dX7_memberAt_8 rfl (lv_at hl 0 rfl) ?_
  refine lv_iload_n hx hb dX7_memberAt_9 rfl (lv_at hl 1 rfl) ?_
  refine lv_bipush (v := 8) hx hb dX7_memberAt_10 (by decide) ?_
  refine lv_idiv hx hb dX7_memberAt_12 (by decide) ?_
  refine lv_topi (fun z1 e2 => ?_)
  have hPc := hP.sub (ws' := [(h0, .inr (7, [.ref a1, .int 0, .ref a2, .ref a3, .int 0, .ref a4, .int 0, .int 0, .int (-1)]))]) [0] rfl
  have hDc := hD.sub (ws' := [(h0, .inr (7, [.ref a1, .int 0, .ref a2, .ref a3, .int 0, .ref a4, .int 0, .int 0, .int (-1)]))]) [0] (by decide) rfl
  have hFc := va_free (wc := [(h0, .inr (7, [.ref a1, .int 0, .ref a2, .ref a3, .int 0, .ref a4, .int 0, .int 0, .int (-1)]))]) hD hS hA [0] rfl
  refine va_callq (va_runV (As := [.int z1]) (rest := []) ⟨hx, hb, hml, hown, hT⟩ (c_typeAt1 l D cy s.heap.size h0 a1 a2 a3 a4 z1) (cwV 1 hT (gTBV t_1337 t_1263 t_1264 t_139 t_1265) rfl rfl rfl (by decide +kernel) ⟨Nat.le_of_ble_eq_true rfl, Nat.le_of_ble_eq_true rfl⟩) ⟨fun a U g mk q => by obtain ⟨q0, q1, qP, qK, qD⟩ := q; exact ⟨q0, q1, qP, va_K.moved (u := U) (U := U.calling g mk a) (Vm.Alike.refl U.vm) qK, qD⟩, va_recv hK hPc (ci := 7) (q0 := 0) rfl rfl, fun U hU hW => ⟨rfl, by rw [hU], by rw [hU]; exact hPc, va_K.moved hW.alike hK, hDc.weaken (fun _ _ _ _ => trivial)⟩⟩ rfl rfl hl.1 rfl (lv_room (Nat.le_of_ble_eq_true rfl)) dX7_memberAt_13 ⟨Nat.le_of_ble_eq_true rfl, Nat.le_of_ble_eq_true rfl⟩) hS (fun q _ h => hFc q h) hFc (fun r3 u t H1 locs ht hvm w4 hB hz1 hk1 hS => ?_)
  obtain ⟨hP1, hD1⟩ := hB
  rw [ht] at hP1
  obtain ⟨hP, hD⟩ := va_join (wr := []) (w1 := [(h0, .inr (7, [.ref a1, .int 0, .ref a2, .ref a3, .int 0, .ref a4, .int 0, .int 0, .int (-1)]))]) hP hD [0] [] rfl rfl (by decide) (by decide) hk1 hFc hP1 hD1
  generalize H1 = H at hP hS ⊢
  have hP : va_P D vwCl [(h0, .inr (7, [.ref a1, .int 0, .ref a2, .ref a3, .int 0, .ref a4, .int 0, .int 0, .int (-1)]))] H := hP
  have hD : va_D A [(h0, .inr (7, [.ref a1, .int 0, .ref a2, .ref a3, .int 0, .ref a4, .int 0, .int 0, .int (-1)]))] := hD
  obtain rfl := w4
  refine lv_astore_nN (lv' := [(2, .null), (0, .ref h0), (1, .int p0)]) hx hb dX7_memberAt_16 rfl hl (by decide) rfl (fun ls hl => ?_)
  refine lv_aload_nN hx hb dX7_memberAt_17 rfl (lv_at hl 0 rfl) ?_
  refine lv_ifnonnullN hx hb dX7_memberAt_18 ?_
  refine lv_null hx hb dX7_memberAt_21 ?_
  refine lv_goto (tgt := 33) hx hb dX7_memberAt_22 (by decide) ?_
  have hP9 := hP.sub (ws' := [(h0, .inr (7, [.ref a1, .int 0, .ref a2, .ref a3, .int 0, .ref a4, .int 0, .int 0, .int (-1)]))]) [0] rfl
  have hD9 := hD.sub (ws' := [(h0, .inr (7, [.ref a1, .int 0, .ref a2, .ref a3, .int 0, .ref a4, .int 0, .int 0, .int (-1)]))]) [0] (by decide) rfl
  refine W.widen (k := 0) (n := 0) (Nat.le_of_ble_eq_true rfl) (Nat.le_of_ble_eq_true rfl) ?_
  exact W.aret (v := .null) hx hb hr (Or.inl ⟨_, rfl⟩) (Or.inl rfl) (fun t ht hW => ⟨⟨none, (), rfl, rfl, by rw [ht]; exact hP9, hD9⟩, hS.F ht⟩) hS.2.2 dX7_memberAt_33

set_option maxHeartbeats 4000000 in
set_option maxRecDepth 100000 in
theorem c_mbegin (l : Launch) (D : va_G) (cy : Nat → ClassId) (sz : Nat) (m0 : Nat) (tx0 : Nat) (ya : Nat → Nat) (h0 : Nat) (a1 : Nat) (a2 : Nat) (a3 : Nat) (a4 : Nat) : Met l yX4_begin (.code yX4_begin cX4_begin 4 none :: TB) ({ frames := 2, cells := 0, slots := 0, locals := 43 }) (va_Pc [.ref m0, .ref h0] (fun U => U.heap.size = sz ∧ va_P D vwCl [(m0, .inr (4, [.ref tx0, .ref (ya 0), .ref (ya 1), .ref (ya 2), .int 0, .int 0, .int 0, .ref (ya 3), .int 0, .ref (ya 4), .int 0, .int 0, .int 0, .ref (ya 5), .ref (ya 5), .int 0, .int 0, .int 0, .int 1, .int 0])), ((ya 5), .inr (3, [.int 0, .int 0, .int 0, .int 0, .int 0, .int 0, .null, .int (-1), .ref (ya 6), .ref (ya 7), .ref (ya 8), .ref (ya 9), .ref (ya 10), .ref (ya 11), .int 0])), ((ya 0), .inl (cy 1, 64, .inl (fun _ => 0))), ((ya 1), .inl (cy 1, 8, .inl (fun _ => 0))), (h0, .inr (7, [.ref a1, .int 0, .ref a2, .ref a3, .int 0, .ref a4, .int 0, .int 0, .int (-1)]))] U.heap ∧ va_K D vwCl (TY cy) U ∧ va_D (fun _ => True) [(m0, .inr (4, [.ref tx0, .ref (ya 0), .ref (ya 1), .ref (ya 2), .int 0, .int 0, .int 0, .ref (ya 3), .int 0, .ref (ya 4), .int 0, .int 0, .int 0, .ref (ya 5), .ref (ya 5), .int 0, .int 0, .int 0, .int 1, .int 0])), ((ya 5), .inr (3, [.int 0, .int 0, .int 0, .int 0, .int 0, .int 0, .null, .int (-1), .ref (ya 6), .ref (ya 7), .ref (ya 8), .ref (ya 9), .ref (ya 10), .ref (ya 11), .int 0])), ((ya 0), .inl (cy 1, 64, .inl (fun _ => 0))), ((ya 1), .inl (cy 1, 8, .inl (fun _ => 0))), (h0, .inr (7, [.ref a1, .int 0, .ref a2, .ref a3, .int 0, .ref a4, .int 0, .int 0, .int (-1)]))])) (va_Qv (fun (u : Unit) => True) (fun (u : Unit) t => va_P D vwCl [(h0, .inr (7, [.ref a1, .int 0, .ref a2, .ref a3, .int 0, .ref a4, .int 0, .int 0, .int (-1)]))] t.heap ∧ va_D (va_A [(m0, .inr (4, [.ref tx0, .ref (ya 0), .ref (ya 1), .ref (ya 2), .int 0, .int 0, .int 0, .ref (ya 3), .int 0, .ref (ya 4), .int 0, .int 0, .int 0, .ref (ya 5), .ref (ya 5), .int 0, .int 0, .int 0, .int 1, .int 0])), ((ya 5), .inr (3, [.int 0, .int 0, .int 0, .int 0, .int 0, .int 0, .null, .int (-1), .ref (ya 6), .ref (ya 7), .ref (ya 8), .ref (ya 9), .ref (ya 10), .ref (ya 11), .int 0])), ((ya 0), .inl (cy 1, 64, .inl (fun _ => 0))), ((ya 1), .inl (cy 1, 8, .inl (fun _ => 0))), (h0, .inr (7, [.ref a1, .int 0, .ref a2, .ref a3, .int 0, .ref a4, .int 0, .int 0, .int (-1)]))] sz) [(h0, .inr (7, [.ref a1, .int 0, .ref a2, .ref a3, .int 0, .ref a4, .int 0, .int 0, .int (-1)]))]) (va_A [(m0, .inr (4, [.ref tx0, .ref (ya 0), .ref (ya 1), .ref (ya 2), .int 0, .int 0, .int 0, .ref (ya 3), .int 0, .ref (ya 4), .int 0, .int 0, .int 0, .ref (ya 5), .ref (ya 5), .int 0, .int 0, .int 0, .int 1, .int 0])), ((ya 5), .inr (3, [.int 0, .int 0, .int 0, .int 0, .int 0, .int 0, .null, .int (-1), .ref (ya 6), .ref (ya 7), .ref (ya 8), .ref (ya 9), .ref (ya 10), .ref (ya 11), .int 0])), ((ya 0), .inl (cy 1, 64, .inl (fun _ => 0))), ((ya 1), .inl (cy 1, 8, .inl (fun _ => 0))), (h0, .inr (7, [.ref a1, .int 0, .ref a2, .ref a3, .int 0, .ref a4, .int 0, .int 0, .int (-1)]))] sz)) 0 0 (va_A [(m0, .inr (4, [.ref tx0, .ref (ya 0), .ref (ya 1), .ref (ya 2), .int 0, .int 0, .int 0, .ref (ya 3), .int 0, .ref (ya 4), .int 0, .int 0, .int 0, .ref (ya 5), .ref (ya 5), .int 0, .int 0, .int 0, .int 1, .int 0])), ((ya 5), .inr (3, [.int 0, .int 0, .int 0, .int 0, .int 0, .int 0, .null, .int (-1), .ref (ya 6), .ref (ya 7), .ref (ya 8), .ref (ya 9), .ref (ya 10), .ref (ya 11), .int 0])), ((ya 0), .inl (cy 1, 64, .inl (fun _ => 0))), ((ya 1), .inl (cy 1, 8, .inl (fun _ => 0))), (h0, .inr (7, [.ref a1, .int 0, .ref a2, .ref a3, .int 0, .ref a4, .int 0, .int 0, .int (-1)]))] sz) := by
  refine Met.ofW (cc := cX4_begin) (maxL := 4) (ret := none) (by decide) rfl ?_
  intro p e s m args below meth c s₁ B hml hv
  obtain ⟨rfl, hsz, hP, hK, hD0⟩ := hv
  have hx := B.exec
  have hb := B.bytes
  have hr := B.returns
  have hts := atoms_spec (ws := .code yX4_begin cX4_begin 4 none :: TB) B.pre
  have hT : ∀ w ∈ TB, w.before _ s = true := fun w h => hts w (List.mem_cons_of_mem _ h)
  have hown : s.vm.findClass "MakerStarts$Machine" = some m.cls := findClass_of_methodNamed B.named
  have hlocks := B.notSynchronized
  subst hsz
  have hD := hD0.self (sz := s.heap.size)
  generalize hAe : va_A [(m0, .inr (4, [.ref tx0, .ref (ya 0), .ref (ya 1), .ref (ya 2), .int 0, .int 0, .int 0, .ref (ya 3), .int 0, .ref (ya 4), .int 0, .int 0, .int 0, .ref (ya 5), .ref (ya 5), .int 0, .int 0, .int 0, .int 1, .int 0])), ((ya 5), .inr (3, [.int 0, .int 0, .int 0, .int 0, .int 0, .int 0, .null, .int (-1), .ref (ya 6), .ref (ya 7), .ref (ya 8), .ref (ya 9), .ref (ya 10), .ref (ya 11), .int 0])), ((ya 0), .inl (cy 1, 64, .inl (fun _ => 0))), ((ya 1), .inl (cy 1, 8, .inl (fun _ => 0))), (h0, .inr (7, [.ref a1, .int 0, .ref a2, .ref a3, .int 0, .ref a4, .int 0, .int 0, .int (-1)]))] s.heap.size = A at hD  ⊢
  have hA : ∀ q : Nat, s.heap.size ≤ q → A q := fun q h => by rw [← hAe]; exact Or.inr h
  have hS : va_S A s.heap s.heap [] := va_S.rf
  have hP : va_P D vwCl [(m0, .inr (4, [.ref tx0, .ref (ya 0), .ref (ya 1), .ref (ya 2), .int 0, .int 0, .int 0, .ref (ya 3), .int 0, .ref (ya 4), .int 0, .int 0, .int 0, .ref (ya 5), .ref (ya 5), .int 0, .int 0, .int 0, .int 1, .int 0])), ((ya 5), .inr (3, [.int 0, .int 0, .int 0, .int 0, .int 0, .int 0, .null, .int (-1), .ref (ya 6), .ref (ya 7), .ref (ya 8), .ref (ya 9), .ref (ya 10), .ref (ya 11), .int 0])), ((ya 0), .inl (cy 1, 64, .inl (fun _ => 0))), ((ya 1), .inl (cy 1, 8, .inl (fun _ => 0))), (h0, .inr (7, [.ref a1, .int 0, .ref a2, .ref a3, .int 0, .ref a4, .int 0, .int 0, .int (-1)]))] s.heap := hP
  have hl := lv_entry ([.ref m0, .ref h0]) (n := 4) (Nat.le_of_ble_eq_true rfl)
  rw [lg_entry_eq]
  generalize (lg_sl ([.ref m0, .ref h0]) ++ List.replicate (4 - (lg_sl ([.ref m0, .ref h0])).length) Slot.unset).toArray = ls at hl ⊢
  have hl : lv_has ls 4 [(0, .ref m0), (1, .ref h0)] := hl
  refine lv_aload_n hx hb dX4_begin_0 rfl (lv_at hl 0 rfl) ?_
  refine lv_aload_n hx hb dX4_begin_1 rfl (lv_at hl 1 rfl) ?_
  refine va_put (D := D) (ci := 4) (v := .ref h0) (ty := .object "MakerStarts$Text") (C := RX4) (T := TX4) (N := 20) hx hb hT i_TX4 tyX4 tyX4_ok nmX4 hown hK hP hD hS 0 rfl rfl 0 (by decide) (hT _ t_468) (fun _ h9 => h9) rfl (by decide +kernel) rfl rfl (Nat.le_of_ble_eq_true rfl) dX4_begin_2 (fun H locs hP hD hS => ?_)
  have hP : va_P D vwCl [(m0, .inr (4, [.ref h0, .ref (ya 0), .ref (ya 1), .ref (ya 2), .int 0, .int 0, .int 0, .ref (ya 3), .int 0, .ref (ya 4), .int 0, .int 0, .int 0, .ref (ya 5), .ref (ya 5), .int 0, .int 0, .int 0, .int 1, .int 0])), ((ya 5), .inr (3, [.int 0, .int 0, .int 0, .int 0, .int 0, .int 0, .null, .int (-1), .ref (ya 6), .ref (ya 7), .ref (ya 8), .ref (ya 9), .ref (ya 10), .ref (ya 11), .int 0])), ((ya 0), .inl (cy 1, 64, .inl (fun _ => 0))), ((ya 1), .inl (cy 1, 8, .inl (fun _ => 0))), (h0, .inr (7, [.ref a1, .int 0, .ref a2, .ref a3, .int 0, .ref a4, .int 0, .int 0, .int (-1)]))] H := hP
  have hD : va_D A [(m0, .inr (4, [.ref h0, .ref (ya 0), .ref (ya 1), .ref (ya 2), .int 0, .int 0, .int 0, .ref (ya 3), .int 0, .ref (ya 4), .int 0, .int 0, .int 0, .ref (ya 5), .ref (ya 5), .int 0, .int 0, .int 0, .int 1, .int 0])), ((ya 5), .inr (3, [.int 0, .int 0, .int 0, .int 0, .int 0, .int 0, .null, .int (-1), .ref (ya 6), .ref (ya 7), .ref (ya 8), .ref (ya 9), .ref (ya 10), .ref (ya 11), .int 0])), ((ya 0), .inl (cy 1, 64, .inl (fun _ => 0))), ((ya 1), .inl (cy 1, 8, .inl (fun _ => 0))), (h0, .inr (7, [.ref a1, .int 0, .ref a2, .ref a3, .int 0, .ref a4, .int 0, .int 0, .int (-1)]))] := hD
  refine lv_aload_n hx hb dX4_begin_5 rfl (lv_at hl 0 rfl) ?_
  refine va_get (D := D) (ci := 4) (v := .ref (ya 0)) (C := RX4) (T := TX4) (N := 20) hx hb hT i_TX4 hown hK hP 0 rfl rfl 1 (by decide) (hT _ t_469) (fun _ h9 => h9) rfl dX4_begin_6 ?_
  refine lv_iconst (v := 0) hx hb dX4_begin_9 (by decide) ?_
  have hPc := hP.sub (ws' := [((ya 0), .inl (cy 1, 64, .inl (fun _ => 0)))]) [2] rfl
  have hDc := hD.sub (ws' := [((ya 0), .inl (cy 1, 64, .inl (fun _ => 0)))]) [2] (by decide) rfl
  have hFc := va_free (wc := [((ya 0), .inl (cy 1, 64, .inl (fun _ => 0)))]) hD hS hA [2] rfl
  refine va_callv (va_runS (As := [.ref (ya 0), .int 0]) (rest := []) ⟨hx, hb, hml, hown, hT⟩ (j_fill l D cy H.size (ya 0) 64 (fun _ => 0) (by decide)) (va_cwS 2 hT (gTBS t_1355 t_1356 t_160 t_1357) rfl rfl rfl (by decide +kernel) ⟨Nat.le_of_ble_eq_true rfl, Nat.le_of_ble_eq_true rfl⟩) ⟨fun a U g mk q => by obtain ⟨q0, q1, qP, qK, qD⟩ := q; exact ⟨q0, q1, qP, va_K.moved (u := U) (U := U.calling g mk a) (Vm.Alike.refl U.vm) qK, qD⟩, fun U hU hW => ⟨rfl, by rw [hU], by rw [hU]; exact hPc, va_K.moved hW.alike hK, hDc.weaken (fun _ _ _ _ => trivial)⟩⟩ rfl rfl hl.1 rfl (lv_room (Nat.le_of_ble_eq_true rfl)) dX4_begin_10 ⟨Nat.le_of_ble_eq_true rfl, Nat.le_of_ble_eq_true rfl⟩) hS (fun q _ h => hFc q h) hFc (fun  u t H1 locs ht hvm w1 hB hz1 hk1 hS => ?_)
  obtain ⟨k2, rfl⟩ : ∃ z, z = u := ⟨_, rfl⟩
  obtain ⟨hP1, hD1⟩ := hB
  rw [ht] at hP1
  obtain ⟨hP, hD⟩ := va_join (wr := [(m0, .inr (4, [.ref h0, .ref (ya 0), .ref (ya 1), .ref (ya 2), .int 0, .int 0, .int 0, .ref (ya 3), .int 0, .ref (ya 4), .int 0, .int 0, .int 0, .ref (ya 5), .ref (ya 5), .int 0, .int 0, .int 0, .int 1, .int 0])), ((ya 5), .inr (3, [.int 0, .int 0, .int 0, .int 0, .int 0, .int 0, .null, .int (-1), .ref (ya 6), .ref (ya 7), .ref (ya 8), .ref (ya 9), .ref (ya 10), .ref (ya 11), .int 0])), ((ya 1), .inl (cy 1, 8, .inl (fun _ => 0))), (h0, .inr (7, [.ref a1, .int 0, .ref a2, .ref a3, .int 0, .ref a4, .int 0, .int 0, .int (-1)]))]) (w1 := [((ya 0), .inl (cy 1, 64, .inl k2))]) hP hD [2] [0, 1, 3, 4] rfl rfl (by decide) (by decide) hk1 hFc hP1 hD1
  generalize H1 = H at hP hS ⊢
  have hP : va_P D vwCl [(m0, .inr (4, [.ref h0, .ref (ya 0), .ref (ya 1), .ref (ya 2), .int 0, .int 0, .int 0, .ref (ya 3), .int 0, .ref (ya 4), .int 0, .int 0, .int 0, .ref (ya 5), .ref (ya 5), .int 0, .int 0, .int 0, .int 1, .int 0])), ((ya 5), .inr (3, [.int 0, .int 0, .int 0, .int 0, .int 0, .int 0, .null, .int (-1), .ref (ya 6), .ref (ya 7), .ref (ya 8), .ref (ya 9), .ref (ya 10), .ref (ya 11), .int 0])), ((ya 1), .inl (cy 1, 8, .inl (fun _ => 0))), (h0, .inr (7, [.ref a1, .int 0, .ref a2, .ref a3, .int 0, .ref a4, .int 0, .int 0, .int (-1)])), ((ya 0), .inl (cy 1, 64, .inl k2))] H := hP
  have hD : va_D A [(m0, .inr (4, [.ref h0, .ref (ya 0), .ref (ya 1), .ref (ya 2), .int 0, .int 0, .int 0, .ref (ya 3), .int 0, .ref (ya 4), .int 0, .int 0, .int 0, .ref (ya 5), .ref (ya 5), .int 0, .int 0, .int 0, .int 1, .int 0])), ((ya 5), .inr (3, [.int 0, .int 0, .int 0, .int 0, .int 0, .int 0, .null, .int (-1), .ref (ya 6), .ref (ya 7), .ref (ya 8), .ref (ya 9), .ref (ya 10), .ref (ya 11), .int 0])), ((ya 1), .inl (cy 1, 8, .inl (fun _ => 0))), (h0, .inr (7, [.ref a1, .int 0, .ref a2, .ref a3, .int 0, .ref a4, .int 0, .int 0, .int (-1)])), ((ya 0), .inl (cy 1, 64, .inl k2))] := hD
  refine lv_aload_n hx hb dX4_begin_13 rfl (lv_at hl 0 rfl) ?_
  refine va_get (D := D) (ci := 4) (v := .ref (ya 1)) (C := RX4) (T := TX4) (N := 20) hx hb hT i_TX4 hown hK hP 0 rfl rfl 2 (by decide) (hT _ t_470) (fun _ h9 => h9) rfl dX4_begin_14 ?_
  refine lv_iconst (v := 0) hx hb dX4_begin_17 (by decide) ?_
  have hPc := hP.sub (ws' := [((ya 1), .inl (cy 1, 8, .inl (fun _ => 0)))]) [2] rfl
  have hDc := hD.sub (ws' := [((ya 1), .inl (cy 1, 8, .inl (fun _ => 0)))]) [2] (by decide) rfl
  have hFc := va_free (wc := [((ya 1), .inl (cy 1, 8, .inl (fun _ => 0)))]) hD hS hA [2] rfl
  refine va_callv (va_runS (As := [.ref (ya 1), .int 0]) (rest := []) ⟨hx, hb, hml, hown, hT⟩ (j_fill l D cy H.size (ya 1) 8 (fun _ => 0) (by decide)) (va_cwS 2 hT (gTBS t_1355 t_1356 t_160 t_1357) rfl rfl rfl (by decide +kernel) ⟨Nat.le_of_ble_eq_true rfl, Nat.le_of_ble_eq_true rfl⟩) ⟨fun a U g mk q => by obtain ⟨q0, q1, qP, qK, qD⟩ := q; exact ⟨q0, q1, qP, va_K.moved (u := U) (U := U.calling g mk a) (Vm.Alike.refl U.vm) qK, qD⟩, fun U hU hW => ⟨rfl, by rw [hU], by rw [hU]; exact hPc, va_K.moved hW.alike hK, hDc.weaken (fun _ _ _ _ => trivial)⟩⟩ rfl rfl hl.1 rfl (lv_room (Nat.le_of_ble_eq_true rfl)) dX4_begin_18 ⟨Nat.le_of_ble_eq_true rfl, Nat.le_of_ble_eq_true rfl⟩) hS (fun q _ h => hFc q h) hFc (fun  u t H1 locs ht hvm w3 hB hz1 hk1 hS => ?_)
  obtain ⟨k4, rfl⟩ : ∃ z, z = u := ⟨_, rfl⟩
  obtain ⟨hP1, hD1⟩ := hB
  rw [ht] at hP1
  obtain ⟨hP, hD⟩ := va_join (wr := [(m0, .inr (4, [.ref h0, .ref (ya 0), .ref (ya 1), .ref (ya 2), .int 0, .int 0, .int 0, .ref (ya 3), .int 0, .ref (ya 4), .int 0, .int 0, .int 0, .ref (ya 5), .ref (ya 5), .int 0, .int 0, .int 0, .int 1, .int 0])), ((ya 5), .inr (3, [.int 0, .int 0, .int 0, .int 0, .int 0, .int 0, .null, .int (-1), .ref (ya 6), .ref (ya 7), .ref (ya 8), .ref (ya 9), .ref (ya 10), .ref (ya 11), .int 0])), (h0, .inr (7, [.ref a1, .int 0, .ref a2, .ref a3, .int 0, .ref a4, .int 0, .int 0, .int (-1)])), ((ya 0), .inl (cy 1, 64, .inl k2))]) (w1 := [((ya 1), .inl (cy 1, 8, .inl k4))]) hP hD [2] [0, 1, 3, 4] rfl rfl (by decide) (by decide) hk1 hFc hP1 hD1
  generalize H1 = H at hP hS ⊢
  have hP : va_P D vwCl [(m0, .inr (4, [.ref h0, .ref (ya 0), .ref (ya 1), .ref (ya 2), .int 0, .int 0, .int 0, .ref (ya 3), .int 0, .ref (ya 4), .int 0, .int 0, .int 0, .ref (ya 5), .ref (ya 5), .int 0, .int 0, .int 0, .int 1, .int 0])), ((ya 5), .inr (3, [.int 0, .int 0, .int 0, .int 0, .int 0, .int 0, .null, .int (-1), .ref (ya 6), .ref (ya 7), .ref (ya 8), .ref (ya 9), .ref (ya 10), .ref (ya 11), .int 0])), (h0, .inr (7, [.ref a1, .int 0, .ref a2, .ref a3, .int 0, .ref a4, .int 0, .int 0, .int (-1)])), ((ya 0), .inl (cy 1, 64, .inl k2)), ((ya 1), .inl (cy 1, 8, .inl k4))] H := hP
  have hD : va_D A [(m0, .inr (4, [.ref h0, .ref (ya 0), .ref (ya 1), .ref (ya 2), .int 0, .int 0, .int 0, .ref (ya 3), .int 0, .ref (ya 4), .int 0, .int 0, .int 0, .ref (ya 5), .ref (ya 5), .int 0, .int 0, .int 0, .int 1, .int 0])), ((ya 5), .inr (3, [.int 0, .int 0, .int 0, .int 0, .int 0, .int 0, .null, .int (-1), .ref (ya 6), .ref (ya 7), .ref (ya 8), .ref (ya 9), .ref (ya 10), .ref (ya 11), .int 0])), (h0, .inr (7, [.ref a1, .int 0, .ref a2, .ref a3, .int 0, .ref a4, .int 0, .int 0, .int (-1)])), ((ya 0), .inl (cy 1, 64, .inl k2)), ((ya 1), .inl (cy 1, 8, .inl k4))] := hD
  refine lv_aload_n hx hb dX4_begin_21 rfl (lv_at hl 0 rfl) ?_
  refine lv_iconst (v := 0) hx hb dX4_begin_22 (by decide) ?_
  refine va_put (D := D) (ci := 4) (v := .int 0) (ty := .int) (C := RX4) (T := TX4) (N := 20) hx hb hT i_TX4 tyX4 tyX4_ok nmX4 hown hK hP hD hS 0 rfl rfl 4 (by decide) (hT _ t_473) (fun _ h9 => h9) rfl (by decide +kernel) rfl rfl (Nat.le_of_ble_eq_true rfl) dX4_begin_23 (fun H locs hP hD hS => ?_)
  have hP : va_P D vwCl [(m0, .inr (4, [.ref h0, .ref (ya 0), .ref (ya 1), .ref (ya 2), .int 0, .int 0, .int 0, .ref (ya 3), .int 0, .ref (ya 4), .int 0, .int 0, .int 0, .ref (ya 5), .ref (ya 5), .int 0, .int 0, .int 0, .int 1, .int 0])), ((ya 5), .inr (3, [.int 0, .int 0, .int 0, .int 0, .int 0, .int 0, .null, .int (-1), .ref (ya 6), .ref (ya 7), .ref (ya 8), .ref (ya 9), .ref (ya 10), .ref (ya 11), .int 0])), (h0, .inr (7, [.ref a1, .int 0, .ref a2, .ref a3, .int 0, .ref a4, .int 0, .int 0, .int (-1)])), ((ya 0), .inl (cy 1, 64, .inl k2)), ((ya 1), .inl (cy 1, 8, .inl k4))] H := hP
  have hD : va_D A [(m0, .inr (4, [.ref h0, .ref (ya 0), .ref (ya 1), .ref (ya 2), .int 0, .int 0, .int 0, .ref (ya 3), .int 0, .ref (ya 4), .int 0, .int 0, .int 0, .ref (ya 5), .ref (ya 5), .int 0, .int 0, .int 0, .int 1, .int 0])), ((ya 5), .inr (3, [.int 0, .int 0, .int 0, .int 0, .int 0, .int 0, .null, .int (-1), .ref (ya 6), .ref (ya 7), .ref (ya 8), .ref (ya 9), .ref (ya 10), .ref (ya 11), .int 0])), (h0, .inr (7, [.ref a1, .int 0, .ref a2, .ref a3, .int 0, .ref a4, .int 0, .int 0, .int (-1)])), ((ya 0), .inl (cy 1, 64, .inl k2)), ((ya 1), .inl (cy 1, 8, .inl k4))] := hD
  refine lv_aload_n hx hb dX4_begin_26 rfl (lv_at hl 0 rfl) ?_
  refine va_get (D := D) (ci := 4) (v := .ref (ya 5)) (C := RX4) (T := TX4) (N := 20) hx hb hT i_TX4 hown hK hP 0 rfl rfl 13 (by decide) (hT _ t_485) (fun _ h9 => h9) rfl dX4_begin_27 ?_
  refine lv_iconst (v := (-1)) hx hb dX4_begin_30 (by decide) ?_
  refine va_put (D := D) (ci := 3) (v := .int (-1)) (ty := .int) (C := RX2) (T := TX2) (N := 15) hx hb hT i_TX2 tyX2 tyX2_ok nmX2 hown hK hP hD hS 1 rfl rfl 7 (by decide) (hT _ t_427) (fun _ h9 => h9) rfl (by decide +kernel) rfl rfl (Nat.le_of_ble_eq_true rfl) dX4_begin_31 (fun H locs hP hD hS => ?_)
  have hP : va_P D vwCl [(m0, .inr (4, [.ref h0, .ref (ya 0), .ref (ya 1), .ref (ya 2), .int 0, .int 0, .int 0, .ref (ya 3), .int 0, .ref (ya 4), .int 0, .int 0, .int 0, .ref (ya 5), .ref (ya 5), .int 0, .int 0, .int 0, .int 1, .int 0])), ((ya 5), .inr (3, [.int 0, .int 0, .int 0, .int 0, .int 0, .int 0, .null, .int (-1), .ref (ya 6), .ref (ya 7), .ref (ya 8), .ref (ya 9), .ref (ya 10), .ref (ya 11), .int 0])), (h0, .inr (7, [.ref a1, .int 0, .ref a2, .ref a3, .int 0, .ref a4, .int 0, .int 0, .int (-1)])), ((ya 0), .inl (cy 1, 64, .inl k2)), ((ya 1), .inl (cy 1, 8, .inl k4))] H := hP
  have hD : va_D A [(m0, .inr (4, [.ref h0, .ref (ya 0), .ref (ya 1), .ref (ya 2), .int 0, .int 0, .int 0, .ref (ya 3), .int 0, .ref (ya 4), .int 0, .int 0, .int 0, .ref (ya 5), .ref (ya 5), .int 0, .int 0, .int 0, .int 1, .int 0])), ((ya 5), .inr (3, [.int 0, .int 0, .int 0, .int 0, .int 0, .int 0, .null, .int (-1), .ref (ya 6), .ref (ya 7), .ref (ya 8), .ref (ya 9), .ref (ya 10), .ref (ya 11), .int 0])), (h0, .inr (7, [.ref a1, .int 0, .ref a2, .ref a3, .int 0, .ref a4, .int 0, .int 0, .int (-1)])), ((ya 0), .inl (cy 1, 64, .inl k2)), ((ya 1), .inl (cy 1, 8, .inl k4))] := hD
  refine lv_aload_n hx hb dX4_begin_34 rfl (lv_at hl 0 rfl) ?_
  refine lv_iconst (v := 1) hx hb dX4_begin_35 (by decide) ?_
  refine va_put (D := D) (ci := 4) (v := .int 1) (ty := .boolean) (C := RX4) (T := TX4) (N := 20) hx hb hT i_TX4 tyX4 tyX4_ok nmX4 hown hK hP hD hS 0 rfl rfl 15 (by decide) (hT _ t_487) (fun _ h9 => h9) rfl (by decide +kernel) rfl rfl (Nat.le_of_ble_eq_true rfl) dX4_begin_36 (fun H locs hP hD hS => ?_)
  have hP : va_P D vwCl [(m0, .inr (4, [.ref h0, .ref (ya 0), .ref (ya 1), .ref (ya 2), .int 0, .int 0, .int 0, .ref (ya 3), .int 0, .ref (ya 4), .int 0, .int 0, .int 0, .ref (ya 5), .ref (ya 5), .int 1, .int 0, .int 0, .int 1, .int 0])), ((ya 5), .inr (3, [.int 0, .int 0, .int 0, .int 0, .int 0, .int 0, .null, .int (-1), .ref (ya 6), .ref (ya 7), .ref (ya 8), .ref (ya 9), .ref (ya 10), .ref (ya 11), .int 0])), (h0, .inr (7, [.ref a1, .int 0, .ref a2, .ref a3, .int 0, .ref a4, .int 0, .int 0, .int (-1)])), ((ya 0), .inl (cy 1, 64, .inl k2)), ((ya 1), .inl (cy 1, 8, .inl k4))] H := hP
  have hD : va_D A [(m0, .inr (4, [.ref h0, .ref (ya 0), .ref (ya 1), .ref (ya 2), .int 0, .int 0, .int 0, .ref (ya 3), .int 0, .ref (ya 4), .int 0, .int 0, .int 0, .ref (ya 5), .ref (ya 5), .int 1, .int 0, .int 0, .int 1, .int 0])), ((ya 5), .inr (3, [.int 0, .int 0, .int 0, .int 0, .int 0, .int 0, .null, .int (-1), .ref (ya 6), .ref (ya 7), .ref (ya 8), .ref (ya 9), .ref (ya 10), .ref (ya 11), .int 0])), (h0, .inr (7, [.ref a1, .int 0, .ref a2, .ref a3, .int 0, .ref a4, .int 0, .int 0, .int (-1)])), ((ya 0), .inl (cy 1, 64, .inl k2)), ((ya 1), .inl (cy 1, 8, .inl k4))] := hD
  refine lv_iconst (v := 0) hx hb dX4_begin_39 (by decide) ?_
  refine lv_istore_n (lv' := [(2, .int 0), (0, .ref m0), (1, .ref h0)]) hx hb dX4_begin_40 rfl hl (by decide) rfl (fun ls hl => ?_)
  have hP := hP.sub (ws' := [(m0, .inr (4, [.ref h0, .ref (ya 0), .ref (ya 1), .ref (ya 2), .int 0, .int 0, .int 0, .ref (ya 3), .int 0, .ref (ya 4), .int 0, .int 0, .int 0, .ref (ya 5), .ref (ya 5), .int 1, .int 0, .int 0, .int 1, .int 0])), (h0, .inr (7, [.ref a1, .int 0, .ref a2, .ref a3, .int 0, .ref a4, .int 0, .int 0, .int (-1)]))]) [0, 2] rfl
  have hD := hD.sub (ws' := [(m0, .inr (4, [.ref h0, .ref (ya 0), .ref (ya 1), .ref (ya 2), .int 0, .int 0, .int 0, .ref (ya 3), .int 0, .ref (ya 4), .int 0, .int 0, .int 0, .ref (ya 5), .ref (ya 5), .int 1, .int 0, .int 0, .int 1, .int 0])), (h0, .inr (7, [.ref a1, .int 0, .ref a2, .ref a3, .int 0, .ref a4, .int 0, .int 0, .int (-1)]))]) [0, 2] (by decide) rfl
  refine loopW (St := Nat) (fun n i H locs ls => i + n = 64 ∧ va_P D vwCl [(m0, .inr (4, [.ref h0, .ref (ya 0), .ref (ya 1), .ref (ya 2), .int 0, .int 0, .int 0, .ref (ya 3), .int 0, .ref (ya 4), .int 0, .int 0, .int 0, .ref (ya 5), .ref (ya 5), .int 1, .int 0, .int 0, .int 1, .int 0])), (h0, .inr (7, [.ref a1, .int 0, .ref a2, .ref a3, .int 0, .ref a4, .int 0, .int 0, .int (-1)]))] H ∧ va_D A [(m0, .inr (4, [.ref h0, .ref (ya 0), .ref (ya 1), .ref (ya 2), .int 0, .int 0, .int 0, .ref (ya 3), .int 0, .ref (ya 4), .int 0, .int 0, .int 0, .ref (ya 5), .ref (ya 5), .int 1, .int 0, .int 0, .int 1, .int 0])), (h0, .inr (7, [.ref a1, .int 0, .ref a2, .ref a3, .int 0, .ref a4, .int 0, .int 0, .int (-1)]))] ∧ va_S A s.heap H locs ∧ lv_has ls 4 [(2, .int (nI i)), (0, .ref m0), (1, .ref h0)]) 41 ?_ ?_ 64 0 _ _ ls ⟨rfl, hP, hD, hS, lv_sub hl [0, 1, 2] rfl⟩
  · rintro i H locs ls ⟨hi, hP, hD, hS, hl⟩
    obtain rfl : i = 64 := by omega
    refine lv_iload_n hx hb dX4_begin_41 rfl (lv_at hl 0 rfl) ?_
    refine lv_bipush (v := 64) hx hb dX4_begin_42 (by decide) ?_
    refine lv_icmp_ge (tgt := 93) hx hb dX4_begin_44 (by decide) (fun _ => ?_) (fun c9 => absurd (by decide) c9)
    refine lv_aload_n hx hb dX4_begin_93 rfl (lv_at hl 1 rfl) ?_
    refine lv_iconst (v := 0) hx hb dX4_begin_94 (by decide) ?_
    refine va_put (D := D) (ci := 4) (v := .int 0) (ty := .boolean) (C := RX4) (T := TX4) (N := 20) hx hb hT i_TX4 tyX4 tyX4_ok nmX4 hown hK hP hD hS 0 rfl rfl 15 (by decide) (hT _ t_487) (fun _ h9 => h9) rfl (by decide +kernel) rfl rfl (Nat.le_of_ble_eq_true rfl) dX4_begin_95 (fun H locs hP hD hS => ?_)
    have hP : va_P D vwCl [(m0, .inr (4, [.ref h0, .ref (ya 0), .ref (ya 1), .ref (ya 2), .int 0, .int 0, .int 0, .ref (ya 3), .int 0, .ref (ya 4), .int 0, .int 0, .int 0, .ref (ya 5), .ref (ya 5), .int 0, .int 0, .int 0, .int 1, .int 0])), (h0, .inr (7, [.ref a1, .int 0, .ref a2, .ref a3, .int 0, .ref a4, .int 0, .int 0, .int (-1)]))] H := hP
    have hD : va_D A [(m0, .inr (4, [.ref h0, .ref (ya 0), .ref (ya 1), .ref (ya 2), .int 0, .int 0, .int 0, .ref (ya 3), .int 0, .ref (ya 4), .int 0, .int 0, .int 0, .ref (ya 5), .ref (ya 5), .int 0, .int 0, .int 0, .int 1, .int 0])), (h0, .inr (7, [.ref a1, .int 0, .ref a2, .ref a3, .int 0, .ref a4, .int 0, .int 0, .int (-1)]))] := hD
    have hP9 := hP.sub (ws' := [(h0, .inr (7, [.ref a1, .int 0, .ref a2, .ref a3, .int 0, .ref a4, .int 0, .int 0, .int (-1)]))]) [1] rfl
    have hD9 := hD.sub (ws' := [(h0, .inr (7, [.ref a1, .int 0, .ref a2, .ref a3, .int 0, .ref a4, .int 0, .int 0, .int (-1)]))]) [1] (by decide) rfl
    refine W.widen (k := 0) (n := 0) (Nat.le_of_ble_eq_true rfl) (Nat.le_of_ble_eq_true rfl) ?_
    exact W.vret hx hb hr (fun t ht hW => ⟨⟨(), rfl, trivial, by rw [ht]; exact hP9, hD9⟩, hS.F ht⟩) hS.2.2 dX4_begin_98
  · rintro n i H locs ls ⟨hi, hP, hD, hS, hl⟩ ih
    refine lv_iload_n hx hb dX4_begin_41 rfl (lv_at hl 0 rfl) ?_
    refine lv_bipush (v := 64) hx hb dX4_begin_42 (by decide) ?_
    refine lv_icmp_ge (tgt := 93) hx hb dX4_begin_44 (by decide) (fun c9 => absurd c9 (nI_ge (a := i) (b := 64) (by omega) (by decide))) (fun _ => ?_)
    refine lv_aload_n hx hb dX4_begin_47 rfl (lv_at hl 2 rfl) ?_
    refine lv_iload_n hx hb dX4_begin_48 rfl (lv_at hl 0 rfl) ?_
    have hPc := hP.sub (ws' := [(h0, .inr (7, [.ref a1, .int 0, .ref a2, .ref a3, .int 0, .ref a4, .int 0, .int 0, .int (-1)]))]) [1] rfl
    have hDc := hD.sub (ws' := [(h0, .inr (7, [.ref a1, .int 0, .ref a2, .ref a3, .int 0, .ref a4, .int 0, .int 0, .int (-1)]))]) [1] (by decide) rfl
    have hFc := va_free (wc := [(h0, .inr (7, [.ref a1, .int 0, .ref a2, .ref a3, .int 0, .ref a4, .int 0, .int 0, .int (-1)]))]) hD hS hA [1] rfl
    refine va_callq (va_runV (As := [.int (nI i)]) (rest := []) ⟨hx, hb, hml, hown, hT⟩ (c_memberAt l D cy H.size h0 a1 a2 a3 a4 (nI i) (nI_pos' (by omega))) (cwV 1 hT (gTBV t_1358 t_1359 t_1360 t_139 t_1361) rfl rfl rfl (by decide +kernel) ⟨Nat.le_of_ble_eq_true rfl, Nat.le_of_ble_eq_true rfl⟩) ⟨fun a U g mk q => by obtain ⟨q0, q1, qP, qK, qD⟩ := q; exact ⟨q0, q1, qP, va_K.moved (u := U) (U := U.calling g mk a) (Vm.Alike.refl U.vm) qK, qD⟩, va_recv hK hPc (ci := 7) (q0 := 0) rfl rfl, fun U hU hW => ⟨rfl, by rw [hU], by rw [hU]; exact hPc, va_K.moved hW.alike hK, hDc.weaken (fun _ _ _ _ => trivial)⟩⟩ rfl rfl hl.1 rfl (lv_room (Nat.le_of_ble_eq_true rfl)) dX4_begin_49 ⟨Nat.le_of_ble_eq_true rfl, Nat.le_of_ble_eq_true rfl⟩) hS (fun q _ h => hFc q h) hFc (fun r5 u t H1 locs ht hvm w6 hB hz1 hk1 hS => ?_)
    obtain ⟨hP1, hD1⟩ := hB
    rw [ht] at hP1
    obtain ⟨hP, hD⟩ := va_join (wr := [(m0, .inr (4, [.ref h0, .ref (ya 0), .ref (ya 1), .ref (ya 2), .int 0, .int 0, .int 0, .ref (ya 3), .int 0, .ref (ya 4), .int 0, .int 0, .int 0, .ref (ya 5), .ref (ya 5), .int 1, .int 0, .int 0, .int 1, .int 0]))]) (w1 := [(h0, .inr (7, [.ref a1, .int 0, .ref a2, .ref a3, .int 0, .ref a4, .int 0, .int 0, .int (-1)]))]) hP hD [1] [0] rfl rfl (by decide) (by decide) hk1 hFc hP1 hD1
    generalize H1 = H at hP hS ⊢
    have hP : va_P D vwCl [(m0, .inr (4, [.ref h0, .ref (ya 0), .ref (ya 1), .ref (ya 2), .int 0, .int 0, .int 0, .ref (ya 3), .int 0, .ref (ya 4), .int 0, .int 0, .int 0, .ref (ya 5), .ref (ya 5), .int 1, .int 0, .int 0, .int 1, .int 0])), (h0, .inr (7, [.ref a1, .int 0, .ref a2, .ref a3, .int 0, .ref a4, .int 0, .int 0, .int (-1)]))] H := hP
    have hD : va_D A [(m0, .inr (4, [.ref h0, .ref (ya 0), .ref (ya 1), .ref (ya 2), .int 0, .int 0, .int 0, .ref (ya 3), .int 0, .ref (ya 4), .int 0, .int 0, .int 0, .ref (ya 5), .ref (ya 5), .int 1, .int 0, .int 0, .int 1, .int 0])), (h0, .inr (7, [.ref a1, .int 0, .ref a2, .ref a3, .int 0, .ref a4, .int 0, .int 0, .int (-1)]))] := hD
    obtain rfl := w6
    refine lv_astore_nN (lv' := [(3, .null), (2, .int (nI i)), (0, .ref m0), (1, .ref h0)]) hx hb dX4_begin_52 rfl hl (by decide) rfl (fun ls hl => ?_)
    refine lv_aload_nN hx hb dX4_begin_53 rfl (lv_at hl 0 rfl) ?_
    refine lv_ifnullN (tgt := 87) hx hb dX4_begin_54 (by decide) ?_
    obtain ⟨z7, e8⟩ : ∃ y : Int32, y = (nI i) + 1 := ⟨_, rfl⟩
    refine lv_iinc (v := z7) (lv' := [(2, .int z7), (3, .null), (0, .ref m0), (1, .ref h0)]) hx hb dX4_begin_87 hl (k := 1) rfl (by rw [e8]; rfl) (by decide) rfl (fun ls hl => ?_)
    obtain rfl : z7 = nI (i + 1) := e8.trans (nI_1 i)
    refine lv_goto (tgt := 41) hx hb dX4_begin_90 (by decide) ?_
    exact ih (i + 1) H locs ls ⟨by omega, hP.sub [0, 1] rfl, hD.sub [0, 1] (by decide) rfl, hS, lv_sub hl [0, 2, 3] rfl⟩

set_option maxHeartbeats 4000000 in
set_option maxRecDepth 100000 in
theorem c_read (l : Launch) (D : va_G) (cy : Nat → ClassId) (sz : Nat) (hx0 : Nat) (xa : Nat → Nat) (tE : Nat) : Met l yX11_read (.code yX11_read cX11_read 2 (some .int) :: TB) ({ frames := 3, cells := 0, slots := 0, locals := 73 }) (va_Pc [.ref hx0] (fun U => U.heap.size = sz ∧ va_P D vwCl [(hx0, .inr (11, [.ref (xa 0), .int 0, .int (-1), .ref (xa 1), .ref (xa 2), .ref (xa 3), .ref (xa 4), .ref (xa 5)])), ((xa 1), .inr (7, [.ref (xa 6), .int 0, .ref (xa 7), .ref (xa 8), .int 0, .ref (xa 9), .int 0, .int 0, .int 0])), ((xa 2), .inr (7, [.ref (xa 10), .int 0, .ref (xa 11), .ref (xa 12), .int 0, .ref (xa 13), .int 0, .int 0, .int 0])), ((xa 10), .inl (cy 4, 8, .inr (.inr (.inr (.inr (fun _ => none)))))), ((xa 11), .inr (0, [.int 0, .ref tE, .int 0])), ((xa 3), .inr (6, [.ref (xa 14), .ref (xa 15), .null])), ((xa 14), .inr (8, [.ref (xa 16), .ref (xa 17), .ref (xa 18), .ref (xa 19), .int 0, .int 0, .int 0, .int 0, .int 0])), ((xa 15), .inr (1, [.ref (xa 14), .null, .null, .int 0, .int 0, .int 0])), ((xa 16), .inl (cy 1, 1601, .inl (fun _ => 0))), ((xa 17), .inl (cy 1, 1601, .inl (fun _ => 0))), ((xa 4), .inr (2, [.ref (xa 20), .ref (xa 21), .int 0, .null])), ((xa 5), .inr (4, [.ref (xa 1), .ref (xa 22), .ref (xa 23), .ref (xa 24), .int 0, .int 0, .int 0, .ref (xa 25), .int 0, .ref (xa 26), .int 0, .int 0, .int 0, .ref (xa 27), .ref (xa 27), .int 0, .int 0, .int 0, .int 1, .int 0])), ((xa 27), .inr (3, [.int 0, .int 0, .int 0, .int 0, .int 0, .int 0, .null, .int (-1), .ref (xa 28), .ref (xa 29), .ref (xa 30), .ref (xa 31), .ref (xa 32), .ref (xa 33), .int 0])), ((xa 22), .inl (cy 1, 64, .inl (fun _ => 0))), ((xa 23), .inl (cy 1, 8, .inl (fun _ => 0))), ((xa 0), .inl (cy 0, 1600, .inl (fun _ => 0)))] U.heap ∧ va_K D vwCl (TY cy) U ∧ va_D (fun _ => True) [(hx0, .inr (11, [.ref (xa 0), .int 0, .int (-1), .ref (xa 1), .ref (xa 2), .ref (xa 3), .ref (xa 4), .ref (xa 5)])), ((xa 1), .inr (7, [.ref (xa 6), .int 0, .ref (xa 7), .ref (xa 8), .int 0, .ref (xa 9), .int 0, .int 0, .int 0])), ((xa 2), .inr (7, [.ref (xa 10), .int 0, .ref (xa 11), .ref (xa 12), .int 0, .ref (xa 13), .int 0, .int 0, .int 0])), ((xa 10), .inl (cy 4, 8, .inr (.inr (.inr (.inr (fun _ => none)))))), ((xa 11), .inr (0, [.int 0, .ref tE, .int 0])), ((xa 3), .inr (6, [.ref (xa 14), .ref (xa 15), .null])), ((xa 14), .inr (8, [.ref (xa 16), .ref (xa 17), .ref (xa 18), .ref (xa 19), .int 0, .int 0, .int 0, .int 0, .int 0])), ((xa 15), .inr (1, [.ref (xa 14), .null, .null, .int 0, .int 0, .int 0])), ((xa 16), .inl (cy 1, 1601, .inl (fun _ => 0))), ((xa 17), .inl (cy 1, 1601, .inl (fun _ => 0))), ((xa 4), .inr (2, [.ref (xa 20), .ref (xa 21), .int 0, .null])), ((xa 5), .inr (4, [.ref (xa 1), .ref (xa 22), .ref (xa 23), .ref (xa 24), .int 0, .int 0, .int 0, .ref (xa 25), .int 0, .ref (xa 26), .int 0, .int 0, .int 0, .ref (xa 27), .ref (xa 27), .int 0, .int 0, .int 0, .int 1, .int 0])), ((xa 27), .inr (3, [.int 0, .int 0, .int 0, .int 0, .int 0, .int 0, .null, .int (-1), .ref (xa 28), .ref (xa 29), .ref (xa 30), .ref (xa 31), .ref (xa 32), .ref (xa 33), .int 0])), ((xa 22), .inl (cy 1, 64, .inl (fun _ => 0))), ((xa 23), .inl (cy 1, 8, .inl (fun _ => 0))), ((xa 0), .inl (cy 0, 1600, .inl (fun _ => 0)))])) (va_Qi (fun (r : Int32) (u : Unit) => r = 0) (fun (u : Unit) t => va_P D vwCl [] t.heap ∧ va_D (va_A [(hx0, .inr (11, [.ref (xa 0), .int 0, .int (-1), .ref (xa 1), .ref (xa 2), .ref (xa 3), .ref (xa 4), .ref (xa 5)])), ((xa 1), .inr (7, [.ref (xa 6), .int 0, .ref (xa 7), .ref (xa 8), .int 0, .ref (xa 9), .int 0, .int 0, .int 0])), ((xa 2), .inr (7, [.ref (xa 10), .int 0, .ref (xa 11), .ref (xa 12), .int 0, .ref (xa 13), .int 0, .int 0, .int 0])), ((xa 10), .inl (cy 4, 8, .inr (.inr (.inr (.inr (fun _ => none)))))), ((xa 11), .inr (0, [.int 0, .ref tE, .int 0])), ((xa 3), .inr (6, [.ref (xa 14), .ref (xa 15), .null])), ((xa 14), .inr (8, [.ref (xa 16), .ref (xa 17), .ref (xa 18), .ref (xa 19), .int 0, .int 0, .int 0, .int 0, .int 0])), ((xa 15), .inr (1, [.ref (xa 14), .null, .null, .int 0, .int 0, .int 0])), ((xa 16), .inl (cy 1, 1601, .inl (fun _ => 0))), ((xa 17), .inl (cy 1, 1601, .inl (fun _ => 0))), ((xa 4), .inr (2, [.ref (xa 20), .ref (xa 21), .int 0, .null])), ((xa 5), .inr (4, [.ref (xa 1), .ref (xa 22), .ref (xa 23), .ref (xa 24), .int 0, .int 0, .int 0, .ref (xa 25), .int 0, .ref (xa 26), .int 0, .int 0, .int 0, .ref (xa 27), .ref (xa 27), .int 0, .int 0, .int 0, .int 1, .int 0])), ((xa 27), .inr (3, [.int 0, .int 0, .int 0, .int 0, .int 0, .int 0, .null, .int (-1), .ref (xa 28), .ref (xa 29), .ref (xa 30), .ref (xa 31), .ref (xa 32), .ref (xa 33), .int 0])), ((xa 22), .inl (cy 1, 64, .inl (fun _ => 0))), ((xa 23), .inl (cy 1, 8, .inl (fun _ => 0))), ((xa 0), .inl (cy 0, 1600, .inl (fun _ => 0)))] sz) []) (va_A [(hx0, .inr (11, [.ref (xa 0), .int 0, .int (-1), .ref (xa 1), .ref (xa 2), .ref (xa 3), .ref (xa 4), .ref (xa 5)])), ((xa 1), .inr (7, [.ref (xa 6), .int 0, .ref (xa 7), .ref (xa 8), .int 0, .ref (xa 9), .int 0, .int 0, .int 0])), ((xa 2), .inr (7, [.ref (xa 10), .int 0, .ref (xa 11), .ref (xa 12), .int 0, .ref (xa 13), .int 0, .int 0, .int 0])), ((xa 10), .inl (cy 4, 8, .inr (.inr (.inr (.inr (fun _ => none)))))), ((xa 11), .inr (0, [.int 0, .ref tE, .int 0])), ((xa 3), .inr (6, [.ref (xa 14), .ref (xa 15), .null])), ((xa 14), .inr (8, [.ref (xa 16), .ref (xa 17), .ref (xa 18), .ref (xa 19), .int 0, .int 0, .int 0, .int 0, .int 0])), ((xa 15), .inr (1, [.ref (xa 14), .null, .null, .int 0, .int 0, .int 0])), ((xa 16), .inl (cy 1, 1601, .inl (fun _ => 0))), ((xa 17), .inl (cy 1, 1601, .inl (fun _ => 0))), ((xa 4), .inr (2, [.ref (xa 20), .ref (xa 21), .int 0, .null])), ((xa 5), .inr (4, [.ref (xa 1), .ref (xa 22), .ref (xa 23), .ref (xa 24), .int 0, .int 0, .int 0, .ref (xa 25), .int 0, .ref (xa 26), .int 0, .int 0, .int 0, .ref (xa 27), .ref (xa 27), .int 0, .int 0, .int 0, .int 1, .int 0])), ((xa 27), .inr (3, [.int 0, .int 0, .int 0, .int 0, .int 0, .int 0, .null, .int (-1), .ref (xa 28), .ref (xa 29), .ref (xa 30), .ref (xa 31), .ref (xa 32), .ref (xa 33), .int 0])), ((xa 22), .inl (cy 1, 64, .inl (fun _ => 0))), ((xa 23), .inl (cy 1, 8, .inl (fun _ => 0))), ((xa 0), .inl (cy 0, 1600, .inl (fun _ => 0)))] sz)) 0 0 (va_A [(hx0, .inr (11, [.ref (xa 0), .int 0, .int (-1), .ref (xa 1), .ref (xa 2), .ref (xa 3), .ref (xa 4), .ref (xa 5)])), ((xa 1), .inr (7, [.ref (xa 6), .int 0, .ref (xa 7), .ref (xa 8), .int 0, .ref (xa 9), .int 0, .int 0, .int 0])), ((xa 2), .inr (7, [.ref (xa 10), .int 0, .ref (xa 11), .ref (xa 12), .int 0, .ref (xa 13), .int 0, .int 0, .int 0])), ((xa 10), .inl (cy 4, 8, .inr (.inr (.inr (.inr (fun _ => none)))))), ((xa 11), .inr (0, [.int 0, .ref tE, .int 0])), ((xa 3), .inr (6, [.ref (xa 14), .ref (xa 15), .null])), ((xa 14), .inr (8, [.ref (xa 16), .ref (xa 17), .ref (xa 18), .ref (xa 19), .int 0, .int 0, .int 0, .int 0, .int 0])), ((xa 15), .inr (1, [.ref (xa 14), .null, .null, .int 0, .int 0, .int 0])), ((xa 16), .inl (cy 1, 1601, .inl (fun _ => 0))), ((xa 17), .inl (cy 1, 1601, .inl (fun _ => 0))), ((xa 4), .inr (2, [.ref (xa 20), .ref (xa 21), .int 0, .null])), ((xa 5), .inr (4, [.ref (xa 1), .ref (xa 22), .ref (xa 23), .ref (xa 24), .int 0, .int 0, .int 0, .ref (xa 25), .int 0, .ref (xa 26), .int 0, .int 0, .int 0, .ref (xa 27), .ref (xa 27), .int 0, .int 0, .int 0, .int 1, .int 0])), ((xa 27), .inr (3, [.int 0, .int 0, .int 0, .int 0, .int 0, .int 0, .null, .int (-1), .ref (xa 28), .ref (xa 29), .ref (xa 30), .ref (xa 31), .ref (xa 32), .ref (xa 33), .int 0])), ((xa 22), .inl (cy 1, 64, .inl (fun _ => 0))), ((xa 23), .inl (cy 1, 8, .inl (fun _ => 0))), ((xa 0), .inl (cy 0, 1600, .inl (fun _ => 0)))] sz) := by
  refine Met.ofW (cc := cX11_read) (maxL := 2) (ret := (some .int)) (by decide) rfl ?_
  intro p e s m args below meth c s₁ B hml hv
  obtain ⟨rfl, hsz, hP, hK, hD0⟩ := hv
  have hx := B.exec
  have hb := B.bytes
  have hr := B.returns
  have hts := atoms_spec (ws := .code yX11_read cX11_read 2 (some .int) :: TB) B.pre
  have hT : ∀ w ∈ TB, w.before _ s = true := fun w h => hts w (List.mem_cons_of_mem _ h)
  have hown : s.vm.findClass "MakerStarts" = some m.cls := findClass_of_methodNamed B.named
  have hlocks := B.notSynchronized
  subst hsz
  have hD := hD0.self (sz := s.heap.size)
  generalize hAe : va_A [(hx0, .inr (11, [.ref (xa 0), .int 0, .int (-1), .ref (xa 1), .ref (xa 2), .ref (xa 3), .ref (xa 4), .ref (xa 5)])), ((xa 1), .inr (7, [.ref (xa 6), .int 0, .ref (xa 7), .ref (xa 8), .int 0, .ref (xa 9), .int 0, .int 0, .int 0])), ((xa 2), .inr (7, [.ref (xa 10), .int 0, .ref (xa 11), .ref (xa 12), .int 0, .ref (xa 13), .int 0, .int 0, .int 0])), ((xa 10), .inl (cy 4, 8, .inr (.inr (.inr (.inr (fun _ => none)))))), ((xa 11), .inr (0, [.int 0, .ref tE, .int 0])), ((xa 3), .inr (6, [.ref (xa 14), .ref (xa 15), .null])), ((xa 14), .inr (8, [.ref (xa 16), .ref (xa 17), .ref (xa 18), .ref (xa 19), .int 0, .int 0, .int 0, .int 0, .int 0])), ((xa 15), .inr (1, [.ref (xa 14), .null, .null, .int 0, .int 0, .int 0])), ((xa 16), .inl (cy 1, 1601, .inl (fun _ => 0))), ((xa 17), .inl (cy 1, 1601, .inl (fun _ => 0))), ((xa 4), .inr (2, [.ref (xa 20), .ref (xa 21), .int 0, .null])), ((xa 5), .inr (4, [.ref (xa 1), .ref (xa 22), .ref (xa 23), .ref (xa 24), .int 0, .int 0, .int 0, .ref (xa 25), .int 0, .ref (xa 26), .int 0, .int 0, .int 0, .ref (xa 27), .ref (xa 27), .int 0, .int 0, .int 0, .int 1, .int 0])), ((xa 27), .inr (3, [.int 0, .int 0, .int 0, .int 0, .int 0, .int 0, .null, .int (-1), .ref (xa 28), .ref (xa 29), .ref (xa 30), .ref (xa 31), .ref (xa 32), .ref (xa 33), .int 0])), ((xa 22), .inl (cy 1, 64, .inl (fun _ => 0))), ((xa 23), .inl (cy 1, 8, .inl (fun _ => 0))), ((xa 0), .inl (cy 0, 1600, .inl (fun _ => 0)))] s.heap.size = A at hD  ⊢
  have hA : ∀ q : Nat, s.heap.size ≤ q → A q := fun q h => by rw [← hAe]; exact Or.inr h
  have hS : va_S A s.heap s.heap [] := va_S.rf
  have hP : va_P D vwCl [(hx0, .inr (11, [.ref (xa 0), .int 0, .int (-1), .ref (xa 1), .ref (xa 2), .ref (xa 3), .ref (xa 4), .ref (xa 5)])), ((xa 1), .inr (7, [.ref (xa 6), .int 0, .ref (xa 7), .ref (xa 8), .int 0, .ref (xa 9), .int 0, .int 0, .int 0])), ((xa 2), .inr (7, [.ref (xa 10), .int 0, .ref (xa 11), .ref (xa 12), .int 0, .ref (xa 13), .int 0, .int 0, .int 0])), ((xa 10), .inl (cy 4, 8, .inr (.inr (.inr (.inr (fun _ => none)))))), ((xa 11), .inr (0, [.int 0, .ref tE, .int 0])), ((xa 3), .inr (6, [.ref (xa 14), .ref (xa 15), .null])), ((xa 14), .inr (8, [.ref (xa 16), .ref (xa 17), .ref (xa 18), .ref (xa 19), .int 0, .int 0, .int 0, .int 0, .int 0])), ((xa 15), .inr (1, [.ref (xa 14), .null, .null, .int 0, .int 0, .int 0])), ((xa 16), .inl (cy 1, 1601, .inl (fun _ => 0))), ((xa 17), .inl (cy 1, 1601, .inl (fun _ => 0))), ((xa 4), .inr (2, [.ref (xa 20), .ref (xa 21), .int 0, .null])), ((xa 5), .inr (4, [.ref (xa 1), .ref (xa 22), .ref (xa 23), .ref (xa 24), .int 0, .int 0, .int 0, .ref (xa 25), .int 0, .ref (xa 26), .int 0, .int 0, .int 0, .ref (xa 27), .ref (xa 27), .int 0, .int 0, .int 0, .int 1, .int 0])), ((xa 27), .inr (3, [.int 0, .int 0, .int 0, .int 0, .int 0, .int 0, .null, .int (-1), .ref (xa 28), .ref (xa 29), .ref (xa 30), .ref (xa 31), .ref (xa 32), .ref (xa 33), .int 0])), ((xa 22), .inl (cy 1, 64, .inl (fun _ => 0))), ((xa 23), .inl (cy 1, 8, .inl (fun _ => 0))), ((xa 0), .inl (cy 0, 1600, .inl (fun _ => 0)))] s.heap := hP
  have hl := lv_entry ([.ref hx0]) (n := 2) (Nat.le_of_ble_eq_true rfl)
  rw [lg_entry_eq]
  generalize (lg_sl ([.ref hx0]) ++ List.replicate (2 - (lg_sl ([.ref hx0])).length) Slot.unset).toArray = ls at hl ⊢
  have hl : lv_has ls 2 [(0, .ref hx0)] := hl
  refine lv_aload_n hx hb dX11_read_0 rfl (lv_at hl 0 rfl) ?_
  refine va_get (D := D) (ci := 11) (v := .ref (xa 2)) (C := RX11) (T := TX11) (N := 8) hx hb hT i_TX11 hown hK hP 0 rfl rfl 4 (by decide) (hT _ t_537) (fun _ h9 => h9) rfl dX11_read_1 ?_
  refine lv_astore_n (lv' := [(1, .ref (xa 2)), (0, .ref hx0)]) hx hb dX11_read_4 rfl hl (by decide) rfl (fun ls hl => ?_)
  refine lv_aload_n hx hb dX11_read_5 rfl (lv_at hl 0 rfl) ?_
  have hPc := hP.sub (ws' := [((xa 2), .inr (7, [.ref (xa 10), .int 0, .ref (xa 11), .ref (xa 12), .int 0, .ref (xa 13), .int 0, .int 0, .int 0])), ((xa 10), .inl (cy 4, 8, .inr (.inr (.inr (.inr (fun _ => none)))))), ((xa 11), .inr (0, [.int 0, .ref tE, .int 0]))]) [2, 3, 4] rfl
  have hDc := hD.sub (ws' := [((xa 2), .inr (7, [.ref (xa 10), .int 0, .ref (xa 11), .ref (xa 12), .int 0, .ref (xa 13), .int 0, .int 0, .int 0])), ((xa 10), .inl (cy 4, 8, .inr (.inr (.inr (.inr (fun _ => none)))))), ((xa 11), .inr (0, [.int 0, .ref tE, .int 0]))]) [2, 3, 4] (by decide) rfl
  have hFc := va_free (wc := [((xa 2), .inr (7, [.ref (xa 10), .int 0, .ref (xa 11), .ref (xa 12), .int 0, .ref (xa 13), .int 0, .int 0, .int 0])), ((xa 10), .inl (cy 4, 8, .inr (.inr (.inr (.inr (fun _ => none)))))), ((xa 11), .inr (0, [.int 0, .ref tE, .int 0]))]) hD hS hA [2, 3, 4] rfl
  refine va_callv (va_runV (As := []) (rest := []) ⟨hx, hb, hml, hown, hT⟩ (c_clear l D cy s.heap.size (xa 2) (xa 10) (xa 11) (xa 12) (xa 13) tE) (cwV 0 hT (gTBV t_566 t_567 t_568 t_139 t_569) rfl rfl rfl (by decide +kernel) ⟨Nat.le_of_ble_eq_true rfl, Nat.le_of_ble_eq_true rfl⟩) ⟨fun a U g mk q => by obtain ⟨q0, q1, qP, qK, qD⟩ := q; exact ⟨q0, q1, qP, va_K.moved (u := U) (U := U.calling g mk a) (Vm.Alike.refl U.vm) qK, qD⟩, va_recv hK hPc (ci := 7) (q0 := 0) rfl rfl, fun U hU hW => ⟨rfl, by rw [hU], by rw [hU]; exact hPc, va_K.moved hW.alike hK, hDc.weaken (fun _ _ _ _ => trivial)⟩⟩ rfl rfl hl.1 rfl (lv_room (Nat.le_of_ble_eq_true rfl)) dX11_read_6 ⟨Nat.le_of_ble_eq_true rfl, Nat.le_of_ble_eq_true rfl⟩) hS (fun q _ h => hFc q h) hFc (fun  u t H1 locs ht hvm w1 hB hz1 hk1 hS => ?_)
  obtain ⟨hP1, hD1⟩ := hB
  rw [ht] at hP1
  obtain ⟨hP, hD⟩ := va_join (wr := [(hx0, .inr (11, [.ref (xa 0), .int 0, .int (-1), .ref (xa 1), .ref (xa 2), .ref (xa 3), .ref (xa 4), .ref (xa 5)])), ((xa 1), .inr (7, [.ref (xa 6), .int 0, .ref (xa 7), .ref (xa 8), .int 0, .ref (xa 9), .int 0, .int 0, .int 0])), ((xa 3), .inr (6, [.ref (xa 14), .ref (xa 15), .null])), ((xa 14), .inr (8, [.ref (xa 16), .ref (xa 17), .ref (xa 18), .ref (xa 19), .int 0, .int 0, .int 0, .int 0, .int 0])), ((xa 15), .inr (1, [.ref (xa 14), .null, .null, .int 0, .int 0, .int 0])), ((xa 16), .inl (cy 1, 1601, .inl (fun _ => 0))), ((xa 17), .inl (cy 1, 1601, .inl (fun _ => 0))), ((xa 4), .inr (2, [.ref (xa 20), .ref (xa 21), .int 0, .null])), ((xa 5), .inr (4, [.ref (xa 1), .ref (xa 22), .ref (xa 23), .ref (xa 24), .int 0, .int 0, .int 0, .ref (xa 25), .int 0, .ref (xa 26), .int 0, .int 0, .int 0, .ref (xa 27), .ref (xa 27), .int 0, .int 0, .int 0, .int 1, .int 0])), ((xa 27), .inr (3, [.int 0, .int 0, .int 0, .int 0, .int 0, .int 0, .null, .int (-1), .ref (xa 28), .ref (xa 29), .ref (xa 30), .ref (xa 31), .ref (xa 32), .ref (xa 33), .int 0])), ((xa 22), .inl (cy 1, 64, .inl (fun _ => 0))), ((xa 23), .inl (cy 1, 8, .inl (fun _ => 0))), ((xa 0), .inl (cy 0, 1600, .inl (fun _ => 0)))]) (w1 := [((xa 2), .inr (7, [.ref (xa 10), .int 0, .ref (xa 11), .ref (xa 12), .int 0, .ref (xa 13), .int 0, .int 0, .int (-1)])), ((xa 11), .inr (0, [.int 1, .ref tE, .int 0]))]) hP hD [2, 3, 4] [0, 1, 5, 6, 7, 8, 9, 10, 11, 12, 13, 14, 15] rfl rfl (by decide) (by decide) hk1 hFc hP1 hD1
  generalize H1 = H at hP hS ⊢
  have hP : va_P D vwCl [(hx0, .inr (11, [.ref (xa 0), .int 0, .int (-1), .ref (xa 1), .ref (xa 2), .ref (xa 3), .ref (xa 4), .ref (xa 5)])), ((xa 1), .inr (7, [.ref (xa 6), .int 0, .ref (xa 7), .ref (xa 8), .int 0, .ref (xa 9), .int 0, .int 0, .int 0])), ((xa 3), .inr (6, [.ref (xa 14), .ref (xa 15), .null])), ((xa 14), .inr (8, [.ref (xa 16), .ref (xa 17), .ref (xa 18), .ref (xa 19), .int 0, .int 0, .int 0, .int 0, .int 0])), ((xa 15), .inr (1, [.ref (xa 14), .null, .null, .int 0, .int 0, .int 0])), ((xa 16), .inl (cy 1, 1601, .inl (fun _ => 0))), ((xa 17), .inl (cy 1, 1601, .inl (fun _ => 0))), ((xa 4), .inr (2, [.ref (xa 20), .ref (xa 21), .int 0, .null])), ((xa 5), .inr (4, [.ref (xa 1), .ref (xa 22), .ref (xa 23), .ref (xa 24), .int 0, .int 0, .int 0, .ref (xa 25), .int 0, .ref (xa 26), .int 0, .int 0, .int 0, .ref (xa 27), .ref (xa 27), .int 0, .int 0, .int 0, .int 1, .int 0])), ((xa 27), .inr (3, [.int 0, .int 0, .int 0, .int 0, .int 0, .int 0, .null, .int (-1), .ref (xa 28), .ref (xa 29), .ref (xa 30), .ref (xa 31), .ref (xa 32), .ref (xa 33), .int 0])), ((xa 22), .inl (cy 1, 64, .inl (fun _ => 0))), ((xa 23), .inl (cy 1, 8, .inl (fun _ => 0))), ((xa 0), .inl (cy 0, 1600, .inl (fun _ => 0))), ((xa 2), .inr (7, [.ref (xa 10), .int 0, .ref (xa 11), .ref (xa 12), .int 0, .ref (xa 13), .int 0, .int 0, .int (-1)])), ((xa 11), .inr (0, [.int 1, .ref tE, .int 0]))] H := hP
  have hD : va_D A [(hx0, .inr (11, [.ref (xa 0), .int 0, .int (-1), .ref (xa 1), .ref (xa 2), .ref (xa 3), .ref (xa 4), .ref (xa 5)])), ((xa 1), .inr (7, [.ref (xa 6), .int 0, .ref (xa 7), .ref (xa 8), .int 0, .ref (xa 9), .int 0, .int 0, .int 0])), ((xa 3), .inr (6, [.ref (xa 14), .ref (xa 15), .null])), ((xa 14), .inr (8, [.ref (xa 16), .ref (xa 17), .ref (xa 18), .ref (xa 19), .int 0, .int 0, .int 0, .int 0, .int 0])), ((xa 15), .inr (1, [.ref (xa 14), .null, .null, .int 0, .int 0, .int 0])), ((xa 16), .inl (cy 1, 1601, .inl (fun _ => 0))), ((xa 17), .inl (cy 1, 1601, .inl (fun _ => 0))), ((xa 4), .inr (2, [.ref (xa 20), .ref (xa 21), .int 0, .null])), ((xa 5), .inr (4, [.ref (xa 1), .ref (xa 22), .ref (xa 23), .ref (xa 24), .int 0, .int 0, .int 0, .ref (xa 25), .int 0, .ref (xa 26), .int 0, .int 0, .int 0, .ref (xa 27), .ref (xa 27), .int 0, .int 0, .int 0, .int 1, .int 0])), ((xa 27), .inr (3, [.int 0, .int 0, .int 0, .int 0, .int 0, .int 0, .null, .int (-1), .ref (xa 28), .ref (xa 29), .ref (xa 30), .ref (xa 31), .ref (xa 32), .ref (xa 33), .int 0])), ((xa 22), .inl (cy 1, 64, .inl (fun _ => 0))), ((xa 23), .inl (cy 1, 8, .inl (fun _ => 0))), ((xa 0), .inl (cy 0, 1600, .inl (fun _ => 0))), ((xa 2), .inr (7, [.ref (xa 10), .int 0, .ref (xa 11), .ref (xa 12), .int 0, .ref (xa 13), .int 0, .int 0, .int (-1)])), ((xa 11), .inr (0, [.int 1, .ref tE, .int 0]))] := hD
  refine lv_aload_n hx hb dX11_read_9 rfl (lv_at hl 1 rfl) ?_
  refine va_get (D := D) (ci := 11) (v := .ref (xa 3)) (C := RX11) (T := TX11) (N := 8) hx hb hT i_TX11 hown hK hP 0 rfl rfl 5 (by decide) (hT _ t_538) (fun _ h9 => h9) rfl dX11_read_10 ?_
  refine lv_aload_n hx hb dX11_read_13 rfl (lv_at hl 1 rfl) ?_
  refine va_get (D := D) (ci := 11) (v := .ref (xa 0)) (C := RX11) (T := TX11) (N := 8) hx hb hT i_TX11 hown hK hP 0 rfl rfl 0 (by decide) (hT _ t_533) (fun _ h9 => h9) rfl dX11_read_14 ?_
  refine lv_aload_n hx hb dX11_read_17 rfl (lv_at hl 1 rfl) ?_
  refine va_get (D := D) (ci := 11) (v := .int 0) (C := RX11) (T := TX11) (N := 8) hx hb hT i_TX11 hown hK hP 0 rfl rfl 1 (by decide) (hT _ t_534) (fun _ h9 => h9) rfl dX11_read_18 ?_
  refine lv_aload_n hx hb dX11_read_21 rfl (lv_at hl 0 rfl) ?_
  have hPc := hP.sub (ws' := [((xa 3), .inr (6, [.ref (xa 14), .ref (xa 15), .null])), ((xa 14), .inr (8, [.ref (xa 16), .ref (xa 17), .ref (xa 18), .ref (xa 19), .int 0, .int 0, .int 0, .int 0, .int 0])), ((xa 15), .inr (1, [.ref (xa 14), .null, .null, .int 0, .int 0, .int 0])), ((xa 16), .inl (cy 1, 1601, .inl (fun _ => 0))), ((xa 17), .inl (cy 1, 1601, .inl (fun _ => 0))), ((xa 2), .inr (7, [.ref (xa 10), .int 0, .ref (xa 11), .ref (xa 12), .int 0, .ref (xa 13), .int 0, .int 0, .int (-1)]))]) [2, 3, 4, 5, 6, 13] rfl
  have hDc := hD.sub (ws' := [((xa 3), .inr (6, [.ref (xa 14), .ref (xa 15), .null])), ((xa 14), .inr (8, [.ref (xa 16), .ref (xa 17), .ref (xa 18), .ref (xa 19), .int 0, .int 0, .int 0, .int 0, .int 0])), ((xa 15), .inr (1, [.ref (xa 14), .null, .null, .int 0, .int 0, .int 0])), ((xa 16), .inl (cy 1, 1601, .inl (fun _ => 0))), ((xa 17), .inl (cy 1, 1601, .inl (fun _ => 0))), ((xa 2), .inr (7, [.ref (xa 10), .int 0, .ref (xa 11), .ref (xa 12), .int 0, .ref (xa 13), .int 0, .int 0, .int (-1)]))]) [2, 3, 4, 5, 6, 13] (by decide) rfl
  have hFc := va_free (wc := [((xa 3), .inr (6, [.ref (xa 14), .ref (xa 15), .null])), ((xa 14), .inr (8, [.ref (xa 16), .ref (xa 17), .ref (xa 18), .ref (xa 19), .int 0, .int 0, .int 0, .int 0, .int 0])), ((xa 15), .inr (1, [.ref (xa 14), .null, .null, .int 0, .int 0, .int 0])), ((xa 16), .inl (cy 1, 1601, .inl (fun _ => 0))), ((xa 17), .inl (cy 1, 1601, .inl (fun _ => 0))), ((xa 2), .inr (7, [.ref (xa 10), .int 0, .ref (xa 11), .ref (xa 12), .int 0, .ref (xa 13), .int 0, .int 0, .int (-1)]))]) hD hS hA [2, 3, 4, 5, 6, 13] rfl
  refine va_calli (va_runV (As := [.ref (xa 0), .int 0, .ref (xa 2)]) (rest := []) ⟨hx, hb, hml, hown, hT⟩ (c_reads l D cy H.size (xa 3) (fun k => xa (k + 14)) (xa 0) (xa 2) (xa 10) (xa 11) (xa 12) (xa 13)) (cwV 3 hT (gTBV t_574 t_575 t_576 t_143 t_577) rfl rfl rfl (by decide +kernel) ⟨Nat.le_of_ble_eq_true rfl, Nat.le_of_ble_eq_true rfl⟩) ⟨fun a U g mk q => by obtain ⟨q0, q1, qP, qK, qD⟩ := q; exact ⟨q0, q1, qP, va_K.moved (u := U) (U := U.calling g mk a) (Vm.Alike.refl U.vm) qK, qD⟩, va_recv hK hPc (ci := 6) (q0 := 0) rfl rfl, fun U hU hW => ⟨rfl, by rw [hU], by rw [hU]; exact hPc, va_K.moved hW.alike hK, hDc.weaken (fun _ _ _ _ => trivial)⟩⟩ rfl rfl hl.1 rfl (lv_room (Nat.le_of_ble_eq_true rfl)) dX11_read_22 ⟨Nat.le_of_ble_eq_true rfl, Nat.le_of_ble_eq_true rfl⟩) hS (fun q _ h => hFc q h) hFc (fun r2 u t H1 locs ht hvm w3 hB hz1 hk1 hS => ?_)
  obtain ⟨hP1, hD1⟩ := hB
  rw [ht] at hP1
  obtain ⟨hP, hD⟩ := va_join (wr := [(hx0, .inr (11, [.ref (xa 0), .int 0, .int (-1), .ref (xa 1), .ref (xa 2), .ref (xa 3), .ref (xa 4), .ref (xa 5)])), ((xa 1), .inr (7, [.ref (xa 6), .int 0, .ref (xa 7), .ref (xa 8), .int 0, .ref (xa 9), .int 0, .int 0, .int 0])), ((xa 4), .inr (2, [.ref (xa 20), .ref (xa 21), .int 0, .null])), ((xa 5), .inr (4, [.ref (xa 1), .ref (xa 22), .ref (xa 23), .ref (xa 24), .int 0, .int 0, .int 0, .ref (xa 25), .int 0, .ref (xa 26), .int 0, .int 0, .int 0, .ref (xa 27), .ref (xa 27), .int 0, .int 0, .int 0, .int 1, .int 0])), ((xa 27), .inr (3, [.int 0, .int 0, .int 0, .int 0, .int 0, .int 0, .null, .int (-1), .ref (xa 28), .ref (xa 29), .ref (xa 30), .ref (xa 31), .ref (xa 32), .ref (xa 33), .int 0])), ((xa 22), .inl (cy 1, 64, .inl (fun _ => 0))), ((xa 23), .inl (cy 1, 8, .inl (fun _ => 0))), ((xa 0), .inl (cy 0, 1600, .inl (fun _ => 0))), ((xa 11), .inr (0, [.int 1, .ref tE, .int 0]))]) (w1 := [((xa 2), .inr (7, [.ref (xa 10), .int 0, .ref (xa 11), .ref (xa 12), .int 0, .ref (xa 13), .int 0, .int 0, .int (-1)]))]) hP hD [2, 3, 4, 5, 6, 13] [0, 1, 7, 8, 9, 10, 11, 12, 14] rfl rfl (by decide) (by decide) hk1 hFc hP1 hD1
  generalize H1 = H at hP hS ⊢
  have hP : va_P D vwCl [(hx0, .inr (11, [.ref (xa 0), .int 0, .int (-1), .ref (xa 1), .ref (xa 2), .ref (xa 3), .ref (xa 4), .ref (xa 5)])), ((xa 1), .inr (7, [.ref (xa 6), .int 0, .ref (xa 7), .ref (xa 8), .int 0, .ref (xa 9), .int 0, .int 0, .int 0])), ((xa 4), .inr (2, [.ref (xa 20), .ref (xa 21), .int 0, .null])), ((xa 5), .inr (4, [.ref (xa 1), .ref (xa 22), .ref (xa 23), .ref (xa 24), .int 0, .int 0, .int 0, .ref (xa 25), .int 0, .ref (xa 26), .int 0, .int 0, .int 0, .ref (xa 27), .ref (xa 27), .int 0, .int 0, .int 0, .int 1, .int 0])), ((xa 27), .inr (3, [.int 0, .int 0, .int 0, .int 0, .int 0, .int 0, .null, .int (-1), .ref (xa 28), .ref (xa 29), .ref (xa 30), .ref (xa 31), .ref (xa 32), .ref (xa 33), .int 0])), ((xa 22), .inl (cy 1, 64, .inl (fun _ => 0))), ((xa 23), .inl (cy 1, 8, .inl (fun _ => 0))), ((xa 0), .inl (cy 0, 1600, .inl (fun _ => 0))), ((xa 11), .inr (0, [.int 1, .ref tE, .int 0])), ((xa 2), .inr (7, [.ref (xa 10), .int 0, .ref (xa 11), .ref (xa 12), .int 0, .ref (xa 13), .int 0, .int 0, .int (-1)]))] H := hP
  have hD : va_D A [(hx0, .inr (11, [.ref (xa 0), .int 0, .int (-1), .ref (xa 1), .ref (xa 2), .ref (xa 3), .ref (xa 4), .ref (xa 5)])), ((xa 1), .inr (7, [.ref (xa 6), .int 0, .ref (xa 7), .ref (xa 8), .int 0, .ref (xa 9), .int 0, .int 0, .int 0])), ((xa 4), .inr (2, [.ref (xa 20), .ref (xa 21), .int 0, .null])), ((xa 5), .inr (4, [.ref (xa 1), .ref (xa 22), .ref (xa 23), .ref (xa 24), .int 0, .int 0, .int 0, .ref (xa 25), .int 0, .ref (xa 26), .int 0, .int 0, .int 0, .ref (xa 27), .ref (xa 27), .int 0, .int 0, .int 0, .int 1, .int 0])), ((xa 27), .inr (3, [.int 0, .int 0, .int 0, .int 0, .int 0, .int 0, .null, .int (-1), .ref (xa 28), .ref (xa 29), .ref (xa 30), .ref (xa 31), .ref (xa 32), .ref (xa 33), .int 0])), ((xa 22), .inl (cy 1, 64, .inl (fun _ => 0))), ((xa 23), .inl (cy 1, 8, .inl (fun _ => 0))), ((xa 0), .inl (cy 0, 1600, .inl (fun _ => 0))), ((xa 11), .inr (0, [.int 1, .ref tE, .int 0])), ((xa 2), .inr (7, [.ref (xa 10), .int 0, .ref (xa 11), .ref (xa 12), .int 0, .ref (xa 13), .int 0, .int 0, .int (-1)]))] := hD
  obtain rfl := w3
  refine lv_if_eq (tgt := 40) hx hb dX11_read_25 (by decide) (fun c9 => absurd c9 (by decide)) (fun _ => ?_)
  refine lv_aload_n hx hb dX11_read_28 rfl (lv_at hl 0 rfl) ?_
  have hPc := hP.sub (ws' := [((xa 2), .inr (7, [.ref (xa 10), .int 0, .ref (xa 11), .ref (xa 12), .int 0, .ref (xa 13), .int 0, .int 0, .int (-1)])), ((xa 11), .inr (0, [.int 1, .ref tE, .int 0]))]) [9, 8] rfl
  have hDc := hD.sub (ws' := [((xa 2), .inr (7, [.ref (xa 10), .int 0, .ref (xa 11), .ref (xa 12), .int 0, .ref (xa 13), .int 0, .int 0, .int (-1)])), ((xa 11), .inr (0, [.int 1, .ref tE, .int 0]))]) [9, 8] (by decide) rfl
  have hFc := va_free (wc := [((xa 2), .inr (7, [.ref (xa 10), .int 0, .ref (xa 11), .ref (xa 12), .int 0, .ref (xa 13), .int 0, .int 0, .int (-1)])), ((xa 11), .inr (0, [.int 1, .ref tE, .int 0]))]) hD hS hA [9, 8] rfl
  refine va_callv (va_runS (As := [.ref (xa 2)]) (rest := []) ⟨hx, hb, hml, hown, hT⟩ (c_Judge l D cy H.size (xa 2) (xa 10) (xa 11) (xa 12) (xa 13) tE) (va_cwS 1 hT (gTBS t_1206 t_1207 t_162 t_1208) rfl rfl rfl (by decide +kernel) ⟨Nat.le_of_ble_eq_true rfl, Nat.le_of_ble_eq_true rfl⟩) ⟨fun a U g mk q => by obtain ⟨q0, q1, qP, qK, qD⟩ := q; exact ⟨q0, q1, qP, va_K.moved (u := U) (U := U.calling g mk a) (Vm.Alike.refl U.vm) qK, qD⟩, fun U hU hW => ⟨rfl, by rw [hU], by rw [hU]; exact hPc, va_K.moved hW.alike hK, hDc.weaken (fun _ _ _ _ => trivial)⟩⟩ rfl rfl hl.1 rfl (lv_room (Nat.le_of_ble_eq_true rfl)) dX11_read_29 ⟨Nat.le_of_ble_eq_true rfl, Nat.le_of_ble_eq_true rfl⟩) hS (fun q _ h => hFc q h) hFc (fun  u t H1 locs ht hvm w4 hB hz1 hk1 hS => ?_)
  obtain ⟨hP1, hD1⟩ := hB
  rw [ht] at hP1
  obtain ⟨hP, hD⟩ := va_join (wr := [(hx0, .inr (11, [.ref (xa 0), .int 0, .int (-1), .ref (xa 1), .ref (xa 2), .ref (xa 3), .ref (xa 4), .ref (xa 5)])), ((xa 1), .inr (7, [.ref (xa 6), .int 0, .ref (xa 7), .ref (xa 8), .int 0, .ref (xa 9), .int 0, .int 0, .int 0])), ((xa 4), .inr (2, [.ref (xa 20), .ref (xa 21), .int 0, .null])), ((xa 5), .inr (4, [.ref (xa 1), .ref (xa 22), .ref (xa 23), .ref (xa 24), .int 0, .int 0, .int 0, .ref (xa 25), .int 0, .ref (xa 26), .int 0, .int 0, .int 0, .ref (xa 27), .ref (xa 27), .int 0, .int 0, .int 0, .int 1, .int 0])), ((xa 27), .inr (3, [.int 0, .int 0, .int 0, .int 0, .int 0, .int 0, .null, .int (-1), .ref (xa 28), .ref (xa 29), .ref (xa 30), .ref (xa 31), .ref (xa 32), .ref (xa 33), .int 0])), ((xa 22), .inl (cy 1, 64, .inl (fun _ => 0))), ((xa 23), .inl (cy 1, 8, .inl (fun _ => 0))), ((xa 0), .inl (cy 0, 1600, .inl (fun _ => 0)))]) (w1 := [((xa 2), .inr (7, [.ref (xa 10), .int 0, .ref (xa 11), .ref (xa 12), .int 0, .ref (xa 13), .int 0, .int 0, .int (-1)])), ((xa 11), .inr (0, [.int 1, .ref tE, .int 0]))]) hP hD [9, 8] [0, 1, 2, 3, 4, 5, 6, 7] rfl rfl (by decide) (by decide) hk1 hFc hP1 hD1
  generalize H1 = H at hP hS ⊢
  have hP : va_P D vwCl [(hx0, .inr (11, [.ref (xa 0), .int 0, .int (-1), .ref (xa 1), .ref (xa 2), .ref (xa 3), .ref (xa 4), .ref (xa 5)])), ((xa 1), .inr (7, [.ref (xa 6), .int 0, .ref (xa 7), .ref (xa 8), .int 0, .ref (xa 9), .int 0, .int 0, .int 0])), ((xa 4), .inr (2, [.ref (xa 20), .ref (xa 21), .int 0, .null])), ((xa 5), .inr (4, [.ref (xa 1), .ref (xa 22), .ref (xa 23), .ref (xa 24), .int 0, .int 0, .int 0, .ref (xa 25), .int 0, .ref (xa 26), .int 0, .int 0, .int 0, .ref (xa 27), .ref (xa 27), .int 0, .int 0, .int 0, .int 1, .int 0])), ((xa 27), .inr (3, [.int 0, .int 0, .int 0, .int 0, .int 0, .int 0, .null, .int (-1), .ref (xa 28), .ref (xa 29), .ref (xa 30), .ref (xa 31), .ref (xa 32), .ref (xa 33), .int 0])), ((xa 22), .inl (cy 1, 64, .inl (fun _ => 0))), ((xa 23), .inl (cy 1, 8, .inl (fun _ => 0))), ((xa 0), .inl (cy 0, 1600, .inl (fun _ => 0))), ((xa 2), .inr (7, [.ref (xa 10), .int 0, .ref (xa 11), .ref (xa 12), .int 0, .ref (xa 13), .int 0, .int 0, .int (-1)])), ((xa 11), .inr (0, [.int 1, .ref tE, .int 0]))] H := hP
  have hD : va_D A [(hx0, .inr (11, [.ref (xa 0), .int 0, .int (-1), .ref (xa 1), .ref (xa 2), .ref (xa 3), .ref (xa 4), .ref (xa 5)])), ((xa 1), .inr (7, [.ref (xa 6), .int 0, .ref (xa 7), .ref (xa 8), .int 0, .ref (xa 9), .int 0, .int 0, .int 0])), ((xa 4), .inr (2, [.ref (xa 20), .ref (xa 21), .int 0, .null])), ((xa 5), .inr (4, [.ref (xa 1), .ref (xa 22), .ref (xa 23), .ref (xa 24), .int 0, .int 0, .int 0, .ref (xa 25), .int 0, .ref (xa 26), .int 0, .int 0, .int 0, .ref (xa 27), .ref (xa 27), .int 0, .int 0, .int 0, .int 1, .int 0])), ((xa 27), .inr (3, [.int 0, .int 0, .int 0, .int 0, .int 0, .int 0, .null, .int (-1), .ref (xa 28), .ref (xa 29), .ref (xa 30), .ref (xa 31), .ref (xa 32), .ref (xa 33), .int 0])), ((xa 22), .inl (cy 1, 64, .inl (fun _ => 0))), ((xa 23), .inl (cy 1, 8, .inl (fun _ => 0))), ((xa 0), .inl (cy 0, 1600, .inl (fun _ => 0))), ((xa 2), .inr (7, [.ref (xa 10), .int 0, .ref (xa 11), .ref (xa 12), .int 0, .ref (xa 13), .int 0, .int 0, .int (-1)])), ((xa 11), .inr (0, [.int 1, .ref tE, .int 0]))] := hD
  refine lv_aload_n hx hb dX11_read_32 rfl (lv_at hl 1 rfl) ?_
  refine va_get (D := D) (ci := 11) (v := .ref (xa 4)) (C := RX11) (T := TX11) (N := 8) hx hb hT i_TX11 hown hK hP 0 rfl rfl 6 (by decide) (hT _ t_539) (fun _ h9 => h9) rfl dX11_read_33 ?_
  refine lv_aload_n hx hb dX11_read_36 rfl (lv_at hl 0 rfl) ?_
  have hPc := hP.sub (ws' := [((xa 2), .inr (7, [.ref (xa 10), .int 0, .ref (xa 11), .ref (xa 12), .int 0, .ref (xa 13), .int 0, .int 0, .int (-1)])), ((xa 4), .inr (2, [.ref (xa 20), .ref (xa 21), .int 0, .null]))]) [8, 2] rfl
  have hDc := hD.sub (ws' := [((xa 2), .inr (7, [.ref (xa 10), .int 0, .ref (xa 11), .ref (xa 12), .int 0, .ref (xa 13), .int 0, .int 0, .int (-1)])), ((xa 4), .inr (2, [.ref (xa 20), .ref (xa 21), .int 0, .null]))]) [8, 2] (by decide) rfl
  have hFc := va_free (wc := [((xa 2), .inr (7, [.ref (xa 10), .int 0, .ref (xa 11), .ref (xa 12), .int 0, .ref (xa 13), .int 0, .int 0, .int (-1)])), ((xa 4), .inr (2, [.ref (xa 20), .ref (xa 21), .int 0, .null]))]) hD hS hA [8, 2] rfl
  refine va_callv (va_runV (As := [.ref (xa 2)]) (rest := []) ⟨hx, hb, hml, hown, hT⟩ (c_Flow l D cy H.size (xa 2) (xa 10) (xa 11) (xa 12) (xa 13) (xa 4) (xa 20) (xa 21)) (cwV 1 hT (gTBV t_1276 t_1277 t_1278 t_150 t_1279) rfl rfl rfl (by decide +kernel) ⟨Nat.le_of_ble_eq_true rfl, Nat.le_of_ble_eq_true rfl⟩) ⟨fun a U g mk q => by obtain ⟨q0, q1, qP, qK, qD⟩ := q; exact ⟨q0, q1, qP, va_K.moved (u := U) (U := U.calling g mk a) (Vm.Alike.refl U.vm) qK, qD⟩, va_recv hK hPc (ci := 2) (q0 := 1) rfl rfl, fun U hU hW => ⟨rfl, by rw [hU], by rw [hU]; exact hPc, va_K.moved hW.alike hK, hDc.weaken (fun _ _ _ _ => trivial)⟩⟩ rfl rfl hl.1 rfl (lv_room (Nat.le_of_ble_eq_true rfl)) dX11_read_37 ⟨Nat.le_of_ble_eq_true rfl, Nat.le_of_ble_eq_true rfl⟩) hS (fun q _ h => hFc q h) hFc (fun  u t H1 locs ht hvm w5 hB hz1 hk1 hS => ?_)
  obtain ⟨hP1, hD1⟩ := hB
  rw [ht] at hP1
  obtain ⟨hP, hD⟩ := va_join (wr := [(hx0, .inr (11, [.ref (xa 0), .int 0, .int (-1), .ref (xa 1), .ref (xa 2), .ref (xa 3), .ref (xa 4), .ref (xa 5)])), ((xa 1), .inr (7, [.ref (xa 6), .int 0, .ref (xa 7), .ref (xa 8), .int 0, .ref (xa 9), .int 0, .int 0, .int 0])), ((xa 5), .inr (4, [.ref (xa 1), .ref (xa 22), .ref (xa 23), .ref (xa 24), .int 0, .int 0, .int 0, .ref (xa 25), .int 0, .ref (xa 26), .int 0, .int 0, .int 0, .ref (xa 27), .ref (xa 27), .int 0, .int 0, .int 0, .int 1, .int 0])), ((xa 27), .inr (3, [.int 0, .int 0, .int 0, .int 0, .int 0, .int 0, .null, .int (-1), .ref (xa 28), .ref (xa 29), .ref (xa 30), .ref (xa 31), .ref (xa 32), .ref (xa 33), .int 0])), ((xa 22), .inl (cy 1, 64, .inl (fun _ => 0))), ((xa 23), .inl (cy 1, 8, .inl (fun _ => 0))), ((xa 0), .inl (cy 0, 1600, .inl (fun _ => 0))), ((xa 11), .inr (0, [.int 1, .ref tE, .int 0]))]) (w1 := [((xa 2), .inr (7, [.ref (xa 10), .int 0, .ref (xa 11), .ref (xa 12), .int 0, .ref (xa 13), .int 0, .int 0, .int (-1)]))]) hP hD [8, 2] [0, 1, 3, 4, 5, 6, 7, 9] rfl rfl (by decide) (by decide) hk1 hFc hP1 hD1
  generalize H1 = H at hP hS ⊢
  have hP : va_P D vwCl [(hx0, .inr (11, [.ref (xa 0), .int 0, .int (-1), .ref (xa 1), .ref (xa 2), .ref (xa 3), .ref (xa 4), .ref (xa 5)])), ((xa 1), .inr (7, [.ref (xa 6), .int 0, .ref (xa 7), .ref (xa 8), .int 0, .ref (xa 9), .int 0, .int 0, .int 0])), ((xa 5), .inr (4, [.ref (xa 1), .ref (xa 22), .ref (xa 23), .ref (xa 24), .int 0, .int 0, .int 0, .ref (xa 25), .int 0, .ref (xa 26), .int 0, .int 0, .int 0, .ref (xa 27), .ref (xa 27), .int 0, .int 0, .int 0, .int 1, .int 0])), ((xa 27), .inr (3, [.int 0, .int 0, .int 0, .int 0, .int 0, .int 0, .null, .int (-1), .ref (xa 28), .ref (xa 29), .ref (xa 30), .ref (xa 31), .ref (xa 32), .ref (xa 33), .int 0])), ((xa 22), .inl (cy 1, 64, .inl (fun _ => 0))), ((xa 23), .inl (cy 1, 8, .inl (fun _ => 0))), ((xa 0), .inl (cy 0, 1600, .inl (fun _ => 0))), ((xa 11), .inr (0, [.int 1, .ref tE, .int 0])), ((xa 2), .inr (7, [.ref (xa 10), .int 0, .ref (xa 11), .ref (xa 12), .int 0, .ref (xa 13), .int 0, .int 0, .int (-1)]))] H := hP
  have hD : va_D A [(hx0, .inr (11, [.ref (xa 0), .int 0, .int (-1), .ref (xa 1), .ref (xa 2), .ref (xa 3), .ref (xa 4), .ref (xa 5)])), ((xa 1), .inr (7, [.ref (xa 6), .int 0, .ref (xa 7), .ref (xa 8), .int 0, .ref (xa 9), .int 0, .int 0, .int 0])), ((xa 5), .inr (4, [.ref (xa 1), .ref (xa 22), .ref (xa 23), .ref (xa 24), .int 0, .int 0, .int 0, .ref (xa 25), .int 0, .ref (xa 26), .int 0, .int 0, .int 0, .ref (xa 27), .ref (xa 27), .int 0, .int 0, .int 0, .int 1, .int 0])), ((xa 27), .inr (3, [.int 0, .int 0, .int 0, .int 0, .int 0, .int 0, .null, .int (-1), .ref (xa 28), .ref (xa 29), .ref (xa 30), .ref (xa 31), .ref (xa 32), .ref (xa 33), .int 0])), ((xa 22), .inl (cy 1, 64, .inl (fun _ => 0))), ((xa 23), .inl (cy 1, 8, .inl (fun _ => 0))), ((xa 0), .inl (cy 0, 1600, .inl (fun _ => 0))), ((xa 11), .inr (0, [.int 1, .ref tE, .int 0])), ((xa 2), .inr (7, [.ref (xa 10), .int 0, .ref (xa 11), .ref (xa 12), .int 0, .ref (xa 13), .int 0, .int 0, .int (-1)]))] := hD
  refine lv_aload_n hx hb dX11_read_40 rfl (lv_at hl 1 rfl) ?_
  refine lv_iconst (v := 0) hx hb dX11_read_41 (by decide) ?_
  refine va_put (D := D) (ci := 11) (v := .int 0) (ty := .int) (C := RX11) (T := TX11) (N := 8) hx hb hT i_TX11 tyX11 tyX11_ok nmX11 hown hK hP hD hS 0 rfl rfl 1 (by decide) (hT _ t_534) (fun _ h9 => h9) rfl (by decide +kernel) rfl rfl (Nat.le_of_ble_eq_true rfl) dX11_read_42 (fun H locs hP hD hS => ?_)
  have hP : va_P D vwCl [(hx0, .inr (11, [.ref (xa 0), .int 0, .int (-1), .ref (xa 1), .ref (xa 2), .ref (xa 3), .ref (xa 4), .ref (xa 5)])), ((xa 1), .inr (7, [.ref (xa 6), .int 0, .ref (xa 7), .ref (xa 8), .int 0, .ref (xa 9), .int 0, .int 0, .int 0])), ((xa 5), .inr (4, [.ref (xa 1), .ref (xa 22), .ref (xa 23), .ref (xa 24), .int 0, .int 0, .int 0, .ref (xa 25), .int 0, .ref (xa 26), .int 0, .int 0, .int 0, .ref (xa 27), .ref (xa 27), .int 0, .int 0, .int 0, .int 1, .int 0])), ((xa 27), .inr (3, [.int 0, .int 0, .int 0, .int 0, .int 0, .int 0, .null, .int (-1), .ref (xa 28), .ref (xa 29), .ref (xa 30), .ref (xa 31), .ref (xa 32), .ref (xa 33), .int 0])), ((xa 22), .inl (cy 1, 64, .inl (fun _ => 0))), ((xa 23), .inl (cy 1, 8, .inl (fun _ => 0))), ((xa 0), .inl (cy 0, 1600, .inl (fun _ => 0))), ((xa 11), .inr (0, [.int 1, .ref tE, .int 0])), ((xa 2), .inr (7, [.ref (xa 10), .int 0, .ref (xa 11), .ref (xa 12), .int 0, .ref (xa 13), .int 0, .int 0, .int (-1)]))] H := hP
  have hD : va_D A [(hx0, .inr (11, [.ref (xa 0), .int 0, .int (-1), .ref (xa 1), .ref (xa 2), .ref (xa 3), .ref (xa 4), .ref (xa 5)])), ((xa 1), .inr (7, [.ref (xa 6), .int 0, .ref (xa 7), .ref (xa 8), .int 0, .ref (xa 9), .int 0, .int 0, .int 0])), ((xa 5), .inr (4, [.ref (xa 1), .ref (xa 22), .ref (xa 23), .ref (xa 24), .int 0, .int 0, .int 0, .ref (xa 25), .int 0, .ref (xa 26), .int 0, .int 0, .int 0, .ref (xa 27), .ref (xa 27), .int 0, .int 0, .int 0, .int 1, .int 0])), ((xa 27), .inr (3, [.int 0, .int 0, .int 0, .int 0, .int 0, .int 0, .null, .int (-1), .ref (xa 28), .ref (xa 29), .ref (xa 30), .ref (xa 31), .ref (xa 32), .ref (xa 33), .int 0])), ((xa 22), .inl (cy 1, 64, .inl (fun _ => 0))), ((xa 23), .inl (cy 1, 8, .inl (fun _ => 0))), ((xa 0), .inl (cy 0, 1600, .inl (fun _ => 0))), ((xa 11), .inr (0, [.int 1, .ref tE, .int 0])), ((xa 2), .inr (7, [.ref (xa 10), .int 0, .ref (xa 11), .ref (xa 12), .int 0, .ref (xa 13), .int 0, .int 0, .int (-1)]))] := hD
  refine lv_aload_n hx hb dX11_read_45 rfl (lv_at hl 1 rfl) ?_
  refine lv_aload_n hx hb dX11_read_46 rfl (lv_at hl 0 rfl) ?_
  refine va_get (D := D) (ci := 7) (v := .int (-1)) (C := RX7) (T := TX7) (N := 9) hx hb hT i_TX7 hown hK hP 8 rfl rfl 8 (by decide) (hT _ t_234) (fun _ h9 => h9) rfl dX11_read_47 ?_
  refine va_put (D := D) (ci := 11) (v := .int (-1)) (ty := .int) (C := RX11) (T := TX11) (N := 8) hx hb hT i_TX11 tyX11 tyX11_ok nmX11 hown hK hP hD hS 0 rfl rfl 2 (by decide) (hT _ t_535) (fun _ h9 => h9) rfl (by decide +kernel) rfl rfl (Nat.le_of_ble_eq_true rfl) dX11_read_50 (fun H locs hP hD hS => ?_)
  have hP : va_P D vwCl [(hx0, .inr (11, [.ref (xa 0), .int 0, .int (-1), .ref (xa 1), .ref (xa 2), .ref (xa 3), .ref (xa 4), .ref (xa 5)])), ((xa 1), .inr (7, [.ref (xa 6), .int 0, .ref (xa 7), .ref (xa 8), .int 0, .ref (xa 9), .int 0, .int 0, .int 0])), ((xa 5), .inr (4, [.ref (xa 1), .ref (xa 22), .ref (xa 23), .ref (xa 24), .int 0, .int 0, .int 0, .ref (xa 25), .int 0, .ref (xa 26), .int 0, .int 0, .int 0, .ref (xa 27), .ref (xa 27), .int 0, .int 0, .int 0, .int 1, .int 0])), ((xa 27), .inr (3, [.int 0, .int 0, .int 0, .int 0, .int 0, .int 0, .null, .int (-1), .ref (xa 28), .ref (xa 29), .ref (xa 30), .ref (xa 31), .ref (xa 32), .ref (xa 33), .int 0])), ((xa 22), .inl (cy 1, 64, .inl (fun _ => 0))), ((xa 23), .inl (cy 1, 8, .inl (fun _ => 0))), ((xa 0), .inl (cy 0, 1600, .inl (fun _ => 0))), ((xa 11), .inr (0, [.int 1, .ref tE, .int 0])), ((xa 2), .inr (7, [.ref (xa 10), .int 0, .ref (xa 11), .ref (xa 12), .int 0, .ref (xa 13), .int 0, .int 0, .int (-1)]))] H := hP
  have hD : va_D A [(hx0, .inr (11, [.ref (xa 0), .int 0, .int (-1), .ref (xa 1), .ref (xa 2), .ref (xa 3), .ref (xa 4), .ref (xa 5)])), ((xa 1), .inr (7, [.ref (xa 6), .int 0, .ref (xa 7), .ref (xa 8), .int 0, .ref (xa 9), .int 0, .int 0, .int 0])), ((xa 5), .inr (4, [.ref (xa 1), .ref (xa 22), .ref (xa 23), .ref (xa 24), .int 0, .int 0, .int 0, .ref (xa 25), .int 0, .ref (xa 26), .int 0, .int 0, .int 0, .ref (xa 27), .ref (xa 27), .int 0, .int 0, .int 0, .int 1, .int 0])), ((xa 27), .inr (3, [.int 0, .int 0, .int 0, .int 0, .int 0, .int 0, .null, .int (-1), .ref (xa 28), .ref (xa 29), .ref (xa 30), .ref (xa 31), .ref (xa 32), .ref (xa 33), .int 0])), ((xa 22), .inl (cy 1, 64, .inl (fun _ => 0))), ((xa 23), .inl (cy 1, 8, .inl (fun _ => 0))), ((xa 0), .inl (cy 0, 1600, .inl (fun _ => 0))), ((xa 11), .inr (0, [.int 1, .ref tE, .int 0])), ((xa 2), .inr (7, [.ref (xa 10), .int 0, .ref (xa 11), .ref (xa 12), .int 0, .ref (xa 13), .int 0, .int 0, .int (-1)]))] := hD
  refine lv_aload_n hx hb dX11_read_53 rfl (lv_at hl 0 rfl) ?_
  refine va_get (D := D) (ci := 7) (v := .int 0) (C := RX7) (T := TX7) (N := 9) hx hb hT i_TX7 hown hK hP 8 rfl rfl 7 (by decide) (hT _ t_231) (fun _ h9 => h9) rfl dX11_read_54 ?_
  refine lv_if_eq (tgt := 68) hx hb dX11_read_57 (by decide) (fun _ => ?_) (fun c9 => absurd (by decide) c9)
  refine lv_aload_n hx hb dX11_read_68 rfl (lv_at hl 1 rfl) ?_
  refine lv_aload_n hx hb dX11_read_69 rfl (lv_at hl 1 rfl) ?_
  refine va_get (D := D) (ci := 11) (v := .ref (xa 1)) (C := RX11) (T := TX11) (N := 8) hx hb hT i_TX11 hown hK hP 0 rfl rfl 3 (by decide) (hT _ t_536) (fun _ h9 => h9) rfl dX11_read_70 ?_
  refine va_put (D := D) (ci := 11) (v := .ref (xa 1)) (ty := .object "MakerStarts$Text") (C := RX11) (T := TX11) (N := 8) hx hb hT i_TX11 tyX11 tyX11_ok nmX11 hown hK hP hD hS 0 rfl rfl 4 (by decide) (hT _ t_537) (fun _ h9 => h9) rfl (by decide +kernel) rfl rfl (Nat.le_of_ble_eq_true rfl) dX11_read_73 (fun H locs hP hD hS => ?_)
  have hP : va_P D vwCl [(hx0, .inr (11, [.ref (xa 0), .int 0, .int (-1), .ref (xa 1), .ref (xa 1), .ref (xa 3), .ref (xa 4), .ref (xa 5)])), ((xa 1), .inr (7, [.ref (xa 6), .int 0, .ref (xa 7), .ref (xa 8), .int 0, .ref (xa 9), .int 0, .int 0, .int 0])), ((xa 5), .inr (4, [.ref (xa 1), .ref (xa 22), .ref (xa 23), .ref (xa 24), .int 0, .int 0, .int 0, .ref (xa 25), .int 0, .ref (xa 26), .int 0, .int 0, .int 0, .ref (xa 27), .ref (xa 27), .int 0, .int 0, .int 0, .int 1, .int 0])), ((xa 27), .inr (3, [.int 0, .int 0, .int 0, .int 0, .int 0, .int 0, .null, .int (-1), .ref (xa 28), .ref (xa 29), .ref (xa 30), .ref (xa 31), .ref (xa 32), .ref (xa 33), .int 0])), ((xa 22), .inl (cy 1, 64, .inl (fun _ => 0))), ((xa 23), .inl (cy 1, 8, .inl (fun _ => 0))), ((xa 0), .inl (cy 0, 1600, .inl (fun _ => 0))), ((xa 11), .inr (0, [.int 1, .ref tE, .int 0])), ((xa 2), .inr (7, [.ref (xa 10), .int 0, .ref (xa 11), .ref (xa 12), .int 0, .ref (xa 13), .int 0, .int 0, .int (-1)]))] H := hP
  have hD : va_D A [(hx0, .inr (11, [.ref (xa 0), .int 0, .int (-1), .ref (xa 1), .ref (xa 1), .ref (xa 3), .ref (xa 4), .ref (xa 5)])), ((xa 1), .inr (7, [.ref (xa 6), .int 0, .ref (xa 7), .ref (xa 8), .int 0, .ref (xa 9), .int 0, .int 0, .int 0])), ((xa 5), .inr (4, [.ref (xa 1), .ref (xa 22), .ref (xa 23), .ref (xa 24), .int 0, .int 0, .int 0, .ref (xa 25), .int 0, .ref (xa 26), .int 0, .int 0, .int 0, .ref (xa 27), .ref (xa 27), .int 0, .int 0, .int 0, .int 1, .int 0])), ((xa 27), .inr (3, [.int 0, .int 0, .int 0, .int 0, .int 0, .int 0, .null, .int (-1), .ref (xa 28), .ref (xa 29), .ref (xa 30), .ref (xa 31), .ref (xa 32), .ref (xa 33), .int 0])), ((xa 22), .inl (cy 1, 64, .inl (fun _ => 0))), ((xa 23), .inl (cy 1, 8, .inl (fun _ => 0))), ((xa 0), .inl (cy 0, 1600, .inl (fun _ => 0))), ((xa 11), .inr (0, [.int 1, .ref tE, .int 0])), ((xa 2), .inr (7, [.ref (xa 10), .int 0, .ref (xa 11), .ref (xa 12), .int 0, .ref (xa 13), .int 0, .int 0, .int (-1)]))] := hD
  refine lv_aload_n hx hb dX11_read_76 rfl (lv_at hl 1 rfl) ?_
  refine lv_aload_n hx hb dX11_read_77 rfl (lv_at hl 0 rfl) ?_
  refine va_put (D := D) (ci := 11) (v := .ref (xa 2)) (ty := .object "MakerStarts$Text") (C := RX11) (T := TX11) (N := 8) hx hb hT i_TX11 tyX11 tyX11_ok nmX11 hown hK hP hD hS 0 rfl rfl 3 (by decide) (hT _ t_536) (fun _ h9 => h9) rfl (by decide +kernel) rfl rfl (Nat.le_of_ble_eq_true rfl) dX11_read_78 (fun H locs hP hD hS => ?_)
  have hP : va_P D vwCl [(hx0, .inr (11, [.ref (xa 0), .int 0, .int (-1), .ref (xa 2), .ref (xa 1), .ref (xa 3), .ref (xa 4), .ref (xa 5)])), ((xa 1), .inr (7, [.ref (xa 6), .int 0, .ref (xa 7), .ref (xa 8), .int 0, .ref (xa 9), .int 0, .int 0, .int 0])), ((xa 5), .inr (4, [.ref (xa 1), .ref (xa 22), .ref (xa 23), .ref (xa 24), .int 0, .int 0, .int 0, .ref (xa 25), .int 0, .ref (xa 26), .int 0, .int 0, .int 0, .ref (xa 27), .ref (xa 27), .int 0, .int 0, .int 0, .int 1, .int 0])), ((xa 27), .inr (3, [.int 0, .int 0, .int 0, .int 0, .int 0, .int 0, .null, .int (-1), .ref (xa 28), .ref (xa 29), .ref (xa 30), .ref (xa 31), .ref (xa 32), .ref (xa 33), .int 0])), ((xa 22), .inl (cy 1, 64, .inl (fun _ => 0))), ((xa 23), .inl (cy 1, 8, .inl (fun _ => 0))), ((xa 0), .inl (cy 0, 1600, .inl (fun _ => 0))), ((xa 11), .inr (0, [.int 1, .ref tE, .int 0])), ((xa 2), .inr (7, [.ref (xa 10), .int 0, .ref (xa 11), .ref (xa 12), .int 0, .ref (xa 13), .int 0, .int 0, .int (-1)]))] H := hP
  have hD : va_D A [(hx0, .inr (11, [.ref (xa 0), .int 0, .int (-1), .ref (xa 2), .ref (xa 1), .ref (xa 3), .ref (xa 4), .ref (xa 5)])), ((xa 1), .inr (7, [.ref (xa 6), .int 0, .ref (xa 7), .ref (xa 8), .int 0, .ref (xa 9), .int 0, .int 0, .int 0])), ((xa 5), .inr (4, [.ref (xa 1), .ref (xa 22), .ref (xa 23), .ref (xa 24), .int 0, .int 0, .int 0, .ref (xa 25), .int 0, .ref (xa 26), .int 0, .int 0, .int 0, .ref (xa 27), .ref (xa 27), .int 0, .int 0, .int 0, .int 1, .int 0])), ((xa 27), .inr (3, [.int 0, .int 0, .int 0, .int 0, .int 0, .int 0, .null, .int (-1), .ref (xa 28), .ref (xa 29), .ref (xa 30), .ref (xa 31), .ref (xa 32), .ref (xa 33), .int 0])), ((xa 22), .inl (cy 1, 64, .inl (fun _ => 0))), ((xa 23), .inl (cy 1, 8, .inl (fun _ => 0))), ((xa 0), .inl (cy 0, 1600, .inl (fun _ => 0))), ((xa 11), .inr (0, [.int 1, .ref tE, .int 0])), ((xa 2), .inr (7, [.ref (xa 10), .int 0, .ref (xa 11), .ref (xa 12), .int 0, .ref (xa 13), .int 0, .int 0, .int (-1)]))] := hD
  refine lv_aload_n hx hb dX11_read_81 rfl (lv_at hl 0 rfl) ?_
  have hPc := hP.sub (ws' := [((xa 2), .inr (7, [.ref (xa 10), .int 0, .ref (xa 11), .ref (xa 12), .int 0, .ref (xa 13), .int 0, .int 0, .int (-1)])), ((xa 11), .inr (0, [.int 1, .ref tE, .int 0]))]) [8, 7] rfl
  have hDc := hD.sub (ws' := [((xa 2), .inr (7, [.ref (xa 10), .int 0, .ref (xa 11), .ref (xa 12), .int 0, .ref (xa 13), .int 0, .int 0, .int (-1)])), ((xa 11), .inr (0, [.int 1, .ref tE, .int 0]))]) [8, 7] (by decide) rfl
  have hFc := va_free (wc := [((xa 2), .inr (7, [.ref (xa 10), .int 0, .ref (xa 11), .ref (xa 12), .int 0, .ref (xa 13), .int 0, .int 0, .int (-1)])), ((xa 11), .inr (0, [.int 1, .ref tE, .int 0]))]) hD hS hA [8, 7] rfl
  refine va_callv (va_runV (As := []) (rest := []) ⟨hx, hb, hml, hown, hT⟩ (c_link l D cy H.size (xa 2) (xa 10) (xa 11) (xa 12) (xa 13) tE) (cwV 0 hT (gTBV t_1315 t_1316 t_1317 t_139 t_1318) rfl rfl rfl (by decide +kernel) ⟨Nat.le_of_ble_eq_true rfl, Nat.le_of_ble_eq_true rfl⟩) ⟨fun a U g mk q => by obtain ⟨q0, q1, qP, qK, qD⟩ := q; exact ⟨q0, q1, qP, va_K.moved (u := U) (U := U.calling g mk a) (Vm.Alike.refl U.vm) qK, qD⟩, va_recv hK hPc (ci := 7) (q0 := 0) rfl rfl, fun U hU hW => ⟨rfl, by rw [hU], by rw [hU]; exact hPc, va_K.moved hW.alike hK, hDc.weaken (fun _ _ _ _ => trivial)⟩⟩ rfl rfl hl.1 rfl (lv_room (Nat.le_of_ble_eq_true rfl)) dX11_read_82 ⟨Nat.le_of_ble_eq_true rfl, Nat.le_of_ble_eq_true rfl⟩) hS (fun q _ h => hFc q h) hFc (fun  u t H1 locs ht hvm w6 hB hz1 hk1 hS => ?_)
  obtain ⟨hP1, hD1⟩ := hB
  rw [ht] at hP1
  obtain ⟨hP, hD⟩ := va_join (wr := [(hx0, .inr (11, [.ref (xa 0), .int 0, .int (-1), .ref (xa 2), .ref (xa 1), .ref (xa 3), .ref (xa 4), .ref (xa 5)])), ((xa 1), .inr (7, [.ref (xa 6), .int 0, .ref (xa 7), .ref (xa 8), .int 0, .ref (xa 9), .int 0, .int 0, .int 0])), ((xa 5), .inr (4, [.ref (xa 1), .ref (xa 22), .ref (xa 23), .ref (xa 24), .int 0, .int 0, .int 0, .ref (xa 25), .int 0, .ref (xa 26), .int 0, .int 0, .int 0, .ref (xa 27), .ref (xa 27), .int 0, .int 0, .int 0, .int 1, .int 0])), ((xa 27), .inr (3, [.int 0, .int 0, .int 0, .int 0, .int 0, .int 0, .null, .int (-1), .ref (xa 28), .ref (xa 29), .ref (xa 30), .ref (xa 31), .ref (xa 32), .ref (xa 33), .int 0])), ((xa 22), .inl (cy 1, 64, .inl (fun _ => 0))), ((xa 23), .inl (cy 1, 8, .inl (fun _ => 0))), ((xa 0), .inl (cy 0, 1600, .inl (fun _ => 0)))]) (w1 := [((xa 2), .inr (7, [.ref (xa 10), .int 0, .ref (xa 11), .ref (xa 12), .int 0, .ref (xa 13), .int 0, .int 0, .int (-1)]))]) hP hD [8, 7] [0, 1, 2, 3, 4, 5, 6] rfl rfl (by decide) (by decide) hk1 hFc hP1 hD1
  generalize H1 = H at hP hS ⊢
  have hP : va_P D vwCl [(hx0, .inr (11, [.ref (xa 0), .int 0, .int (-1), .ref (xa 2), .ref (xa 1), .ref (xa 3), .ref (xa 4), .ref (xa 5)])), ((xa 1), .inr (7, [.ref (xa 6), .int 0, .ref (xa 7), .ref (xa 8), .int 0, .ref (xa 9), .int 0, .int 0, .int 0])), ((xa 5), .inr (4, [.ref (xa 1), .ref (xa 22), .ref (xa 23), .ref (xa 24), .int 0, .int 0, .int 0, .ref (xa 25), .int 0, .ref (xa 26), .int 0, .int 0, .int 0, .ref (xa 27), .ref (xa 27), .int 0, .int 0, .int 0, .int 1, .int 0])), ((xa 27), .inr (3, [.int 0, .int 0, .int 0, .int 0, .int 0, .int 0, .null, .int (-1), .ref (xa 28), .ref (xa 29), .ref (xa 30), .ref (xa 31), .ref (xa 32), .ref (xa 33), .int 0])), ((xa 22), .inl (cy 1, 64, .inl (fun _ => 0))), ((xa 23), .inl (cy 1, 8, .inl (fun _ => 0))), ((xa 0), .inl (cy 0, 1600, .inl (fun _ => 0))), ((xa 2), .inr (7, [.ref (xa 10), .int 0, .ref (xa 11), .ref (xa 12), .int 0, .ref (xa 13), .int 0, .int 0, .int (-1)]))] H := hP
  have hD : va_D A [(hx0, .inr (11, [.ref (xa 0), .int 0, .int (-1), .ref (xa 2), .ref (xa 1), .ref (xa 3), .ref (xa 4), .ref (xa 5)])), ((xa 1), .inr (7, [.ref (xa 6), .int 0, .ref (xa 7), .ref (xa 8), .int 0, .ref (xa 9), .int 0, .int 0, .int 0])), ((xa 5), .inr (4, [.ref (xa 1), .ref (xa 22), .ref (xa 23), .ref (xa 24), .int 0, .int 0, .int 0, .ref (xa 25), .int 0, .ref (xa 26), .int 0, .int 0, .int 0, .ref (xa 27), .ref (xa 27), .int 0, .int 0, .int 0, .int 1, .int 0])), ((xa 27), .inr (3, [.int 0, .int 0, .int 0, .int 0, .int 0, .int 0, .null, .int (-1), .ref (xa 28), .ref (xa 29), .ref (xa 30), .ref (xa 31), .ref (xa 32), .ref (xa 33), .int 0])), ((xa 22), .inl (cy 1, 64, .inl (fun _ => 0))), ((xa 23), .inl (cy 1, 8, .inl (fun _ => 0))), ((xa 0), .inl (cy 0, 1600, .inl (fun _ => 0))), ((xa 2), .inr (7, [.ref (xa 10), .int 0, .ref (xa 11), .ref (xa 12), .int 0, .ref (xa 13), .int 0, .int 0, .int (-1)]))] := hD
  refine lv_aload_n hx hb dX11_read_85 rfl (lv_at hl 0 rfl) ?_
  have hPc := hP.sub (ws' := [((xa 2), .inr (7, [.ref (xa 10), .int 0, .ref (xa 11), .ref (xa 12), .int 0, .ref (xa 13), .int 0, .int 0, .int (-1)]))]) [7] rfl
  have hDc := hD.sub (ws' := [((xa 2), .inr (7, [.ref (xa 10), .int 0, .ref (xa 11), .ref (xa 12), .int 0, .ref (xa 13), .int 0, .int 0, .int (-1)]))]) [7] (by decide) rfl
  have hFc := va_free (wc := [((xa 2), .inr (7, [.ref (xa 10), .int 0, .ref (xa 11), .ref (xa 12), .int 0, .ref (xa 13), .int 0, .int 0, .int (-1)]))]) hD hS hA [7] rfl
  refine va_callv (va_runV (As := []) (rest := []) ⟨hx, hb, hml, hown, hT⟩ (c_order l D cy H.size (xa 2) (xa 10) (xa 11) (xa 12) (xa 13)) (cwV 0 hT (gTBV t_1333 t_1334 t_1335 t_139 t_1336) rfl rfl rfl (by decide +kernel) ⟨Nat.le_of_ble_eq_true rfl, Nat.le_of_ble_eq_true rfl⟩) ⟨fun a U g mk q => by obtain ⟨q0, q1, qP, qK, qD⟩ := q; exact ⟨q0, q1, qP, va_K.moved (u := U) (U := U.calling g mk a) (Vm.Alike.refl U.vm) qK, qD⟩, va_recv hK hPc (ci := 7) (q0 := 0) rfl rfl, fun U hU hW => ⟨rfl, by rw [hU], by rw [hU]; exact hPc, va_K.moved hW.alike hK, hDc.weaken (fun _ _ _ _ => trivial)⟩⟩ rfl rfl hl.1 rfl (lv_room (Nat.le_of_ble_eq_true rfl)) dX11_read_86 ⟨Nat.le_of_ble_eq_true rfl, Nat.le_of_ble_eq_true rfl⟩) hS (fun q _ h => hFc q h) hFc (fun  u t H1 locs ht hvm w7 hB hz1 hk1 hS => ?_)
  obtain ⟨hP1, hD1⟩ := hB
  rw [ht] at hP1
  obtain ⟨hP, hD⟩ := va_join (wr := [(hx0, .inr (11, [.ref (xa 0), .int 0, .int (-1), .ref (xa 2), .ref (xa 1), .ref (xa 3), .ref (xa 4), .ref (xa 5)])), ((xa 1), .inr (7, [.ref (xa 6), .int 0, .ref (xa 7), .ref (xa 8), .int 0, .ref (xa 9), .int 0, .int 0, .int 0])), ((xa 5), .inr (4, [.ref (xa 1), .ref (xa 22), .ref (xa 23), .ref (xa 24), .int 0, .int 0, .int 0, .ref (xa 25), .int 0, .ref (xa 26), .int 0, .int 0, .int 0, .ref (xa 27), .ref (xa 27), .int 0, .int 0, .int 0, .int 1, .int 0])), ((xa 27), .inr (3, [.int 0, .int 0, .int 0, .int 0, .int 0, .int 0, .null, .int (-1), .ref (xa 28), .ref (xa 29), .ref (xa 30), .ref (xa 31), .ref (xa 32), .ref (xa 33), .int 0])), ((xa 22), .inl (cy 1, 64, .inl (fun _ => 0))), ((xa 23), .inl (cy 1, 8, .inl (fun _ => 0))), ((xa 0), .inl (cy 0, 1600, .inl (fun _ => 0)))]) (w1 := [((xa 2), .inr (7, [.ref (xa 10), .int 0, .ref (xa 11), .ref (xa 12), .int 0, .ref (xa 13), .int 0, .int 0, .int (-1)]))]) hP hD [7] [0, 1, 2, 3, 4, 5, 6] rfl rfl (by decide) (by decide) hk1 hFc hP1 hD1
  generalize H1 = H at hP hS ⊢
  have hP : va_P D vwCl [(hx0, .inr (11, [.ref (xa 0), .int 0, .int (-1), .ref (xa 2), .ref (xa 1), .ref (xa 3), .ref (xa 4), .ref (xa 5)])), ((xa 1), .inr (7, [.ref (xa 6), .int 0, .ref (xa 7), .ref (xa 8), .int 0, .ref (xa 9), .int 0, .int 0, .int 0])), ((xa 5), .inr (4, [.ref (xa 1), .ref (xa 22), .ref (xa 23), .ref (xa 24), .int 0, .int 0, .int 0, .ref (xa 25), .int 0, .ref (xa 26), .int 0, .int 0, .int 0, .ref (xa 27), .ref (xa 27), .int 0, .int 0, .int 0, .int 1, .int 0])), ((xa 27), .inr (3, [.int 0, .int 0, .int 0, .int 0, .int 0, .int 0, .null, .int (-1), .ref (xa 28), .ref (xa 29), .ref (xa 30), .ref (xa 31), .ref (xa 32), .ref (xa 33), .int 0])), ((xa 22), .inl (cy 1, 64, .inl (fun _ => 0))), ((xa 23), .inl (cy 1, 8, .inl (fun _ => 0))), ((xa 0), .inl (cy 0, 1600, .inl (fun _ => 0))), ((xa 2), .inr (7, [.ref (xa 10), .int 0, .ref (xa 11), .ref (xa 12), .int 0, .ref (xa 13), .int 0, .int 0, .int (-1)]))] H := hP
  have hD : va_D A [(hx0, .inr (11, [.ref (xa 0), .int 0, .int (-1), .ref (xa 2), .ref (xa 1), .ref (xa 3), .ref (xa 4), .ref (xa 5)])), ((xa 1), .inr (7, [.ref (xa 6), .int 0, .ref (xa 7), .ref (xa 8), .int 0, .ref (xa 9), .int 0, .int 0, .int 0])), ((xa 5), .inr (4, [.ref (xa 1), .ref (xa 22), .ref (xa 23), .ref (xa 24), .int 0, .int 0, .int 0, .ref (xa 25), .int 0, .ref (xa 26), .int 0, .int 0, .int 0, .ref (xa 27), .ref (xa 27), .int 0, .int 0, .int 0, .int 1, .int 0])), ((xa 27), .inr (3, [.int 0, .int 0, .int 0, .int 0, .int 0, .int 0, .null, .int (-1), .ref (xa 28), .ref (xa 29), .ref (xa 30), .ref (xa 31), .ref (xa 32), .ref (xa 33), .int 0])), ((xa 22), .inl (cy 1, 64, .inl (fun _ => 0))), ((xa 23), .inl (cy 1, 8, .inl (fun _ => 0))), ((xa 0), .inl (cy 0, 1600, .inl (fun _ => 0))), ((xa 2), .inr (7, [.ref (xa 10), .int 0, .ref (xa 11), .ref (xa 12), .int 0, .ref (xa 13), .int 0, .int 0, .int (-1)]))] := hD
  refine lv_aload_n hx hb dX11_read_89 rfl (lv_at hl 1 rfl) ?_
  refine va_get (D := D) (ci := 11) (v := .ref (xa 5)) (C := RX11) (T := TX11) (N := 8) hx hb hT i_TX11 hown hK hP 0 rfl rfl 7 (by decide) (hT _ t_540) (fun _ h9 => h9) rfl dX11_read_90 ?_
  refine lv_aload_n hx hb dX11_read_93 rfl (lv_at hl 0 rfl) ?_
  have hPc := hP.sub (ws' := [((xa 5), .inr (4, [.ref (xa 1), .ref (xa 22), .ref (xa 23), .ref (xa 24), .int 0, .int 0, .int 0, .ref (xa 25), .int 0, .ref (xa 26), .int 0, .int 0, .int 0, .ref (xa 27), .ref (xa 27), .int 0, .int 0, .int 0, .int 1, .int 0])), ((xa 27), .inr (3, [.int 0, .int 0, .int 0, .int 0, .int 0, .int 0, .null, .int (-1), .ref (xa 28), .ref (xa 29), .ref (xa 30), .ref (xa 31), .ref (xa 32), .ref (xa 33), .int 0])), ((xa 22), .inl (cy 1, 64, .inl (fun _ => 0))), ((xa 23), .inl (cy 1, 8, .inl (fun _ => 0))), ((xa 2), .inr (7, [.ref (xa 10), .int 0, .ref (xa 11), .ref (xa 12), .int 0, .ref (xa 13), .int 0, .int 0, .int (-1)]))]) [2, 3, 4, 5, 7] rfl
  have hDc := hD.sub (ws' := [((xa 5), .inr (4, [.ref (xa 1), .ref (xa 22), .ref (xa 23), .ref (xa 24), .int 0, .int 0, .int 0, .ref (xa 25), .int 0, .ref (xa 26), .int 0, .int 0, .int 0, .ref (xa 27), .ref (xa 27), .int 0, .int 0, .int 0, .int 1, .int 0])), ((xa 27), .inr (3, [.int 0, .int 0, .int 0, .int 0, .int 0, .int 0, .null, .int (-1), .ref (xa 28), .ref (xa 29), .ref (xa 30), .ref (xa 31), .ref (xa 32), .ref (xa 33), .int 0])), ((xa 22), .inl (cy 1, 64, .inl (fun _ => 0))), ((xa 23), .inl (cy 1, 8, .inl (fun _ => 0))), ((xa 2), .inr (7, [.ref (xa 10), .int 0, .ref (xa 11), .ref (xa 12), .int 0, .ref (xa 13), .int 0, .int 0, .int (-1)]))]) [2, 3, 4, 5, 7] (by decide) rfl
  have hFc := va_free (wc := [((xa 5), .inr (4, [.ref (xa 1), .ref (xa 22), .ref (xa 23), .ref (xa 24), .int 0, .int 0, .int 0, .ref (xa 25), .int 0, .ref (xa 26), .int 0, .int 0, .int 0, .ref (xa 27), .ref (xa 27), .int 0, .int 0, .int 0, .int 1, .int 0])), ((xa 27), .inr (3, [.int 0, .int 0, .int 0, .int 0, .int 0, .int 0, .null, .int (-1), .ref (xa 28), .ref (xa 29), .ref (xa 30), .ref (xa 31), .ref (xa 32), .ref (xa 33), .int 0])), ((xa 22), .inl (cy 1, 64, .inl (fun _ => 0))), ((xa 23), .inl (cy 1, 8, .inl (fun _ => 0))), ((xa 2), .inr (7, [.ref (xa 10), .int 0, .ref (xa 11), .ref (xa 12), .int 0, .ref (xa 13), .int 0, .int 0, .int (-1)]))]) hD hS hA [2, 3, 4, 5, 7] rfl
  refine va_callv (va_runV (As := [.ref (xa 2)]) (rest := []) ⟨hx, hb, hml, hown, hT⟩ (c_mbegin l D cy H.size (xa 5) (xa 1) (fun k => xa (k + 22)) (xa 2) (xa 10) (xa 11) (xa 12) (xa 13)) (cwV 1 hT (gTBV t_1351 t_1352 t_1353 t_151 t_1354) rfl rfl rfl (by decide +kernel) ⟨Nat.le_of_ble_eq_true rfl, Nat.le_of_ble_eq_true rfl⟩) ⟨fun a U g mk q => by obtain ⟨q0, q1, qP, qK, qD⟩ := q; exact ⟨q0, q1, qP, va_K.moved (u := U) (U := U.calling g mk a) (Vm.Alike.refl U.vm) qK, qD⟩, va_recv hK hPc (ci := 4) (q0 := 0) rfl rfl, fun U hU hW => ⟨rfl, by rw [hU], by rw [hU]; exact hPc, va_K.moved hW.alike hK, hDc.weaken (fun _ _ _ _ => trivial)⟩⟩ rfl rfl hl.1 rfl (lv_room (Nat.le_of_ble_eq_true rfl)) dX11_read_94 ⟨Nat.le_of_ble_eq_true rfl, Nat.le_of_ble_eq_true rfl⟩) hS (fun q _ h => hFc q h) hFc (fun  u t H1 locs ht hvm w8 hB hz1 hk1 hS => ?_)
  obtain ⟨hP1, hD1⟩ := hB
  rw [ht] at hP1
  obtain ⟨hP, hD⟩ := va_join (wr := [(hx0, .inr (11, [.ref (xa 0), .int 0, .int (-1), .ref (xa 2), .ref (xa 1), .ref (xa 3), .ref (xa 4), .ref (xa 5)])), ((xa 1), .inr (7, [.ref (xa 6), .int 0, .ref (xa 7), .ref (xa 8), .int 0, .ref (xa 9), .int 0, .int 0, .int 0])), ((xa 0), .inl (cy 0, 1600, .inl (fun _ => 0)))]) (w1 := [((xa 2), .inr (7, [.ref (xa 10), .int 0, .ref (xa 11), .ref (xa 12), .int 0, .ref (xa 13), .int 0, .int 0, .int (-1)]))]) hP hD [2, 3, 4, 5, 7] [0, 1, 6] rfl rfl (by decide) (by decide) hk1 hFc hP1 hD1
  generalize H1 = H at hP hS ⊢
  have hP : va_P D vwCl [(hx0, .inr (11, [.ref (xa 0), .int 0, .int (-1), .ref (xa 2), .ref (xa 1), .ref (xa 3), .ref (xa 4), .ref (xa 5)])), ((xa 1), .inr (7, [.ref (xa 6), .int 0, .ref (xa 7), .ref (xa 8), .int 0, .ref (xa 9), .int 0, .int 0, .int 0])), ((xa 0), .inl (cy 0, 1600, .inl (fun _ => 0))), ((xa 2), .inr (7, [.ref (xa 10), .int 0, .ref (xa 11), .ref (xa 12), .int 0, .ref (xa 13), .int 0, .int 0, .int (-1)]))] H := hP
  have hD : va_D A [(hx0, .inr (11, [.ref (xa 0), .int 0, .int (-1), .ref (xa 2), .ref (xa 1), .ref (xa 3), .ref (xa 4), .ref (xa 5)])), ((xa 1), .inr (7, [.ref (xa 6), .int 0, .ref (xa 7), .ref (xa 8), .int 0, .ref (xa 9), .int 0, .int 0, .int 0])), ((xa 0), .inl (cy 0, 1600, .inl (fun _ => 0))), ((xa 2), .inr (7, [.ref (xa 10), .int 0, .ref (xa 11), .ref (xa 12), .int 0, .ref (xa 13), .int 0, .int 0, .int (-1)]))] := hD
  refine lv_aload_n hx hb dX11_read_97 rfl (lv_at hl 0 rfl) ?_
  refine va_get (D := D) (ci := 7) (v := .int 0) (C := RX7) (T := TX7) (N := 9) hx hb hT i_TX7 hown hK hP 3 rfl rfl 1 (by decide) (hT _ t_217) (fun _ h9 => h9) rfl dX11_read_98 ?_
  have hP9 := hP.sub (ws' := []) [] rfl
  have hD9 := hD.sub (ws' := []) [] (by decide) rfl
  refine W.widen (k := 0) (n := 0) (Nat.le_of_ble_eq_true rfl) (Nat.le_of_ble_eq_true rfl) ?_
  exact W.iret (v := 0) hx hb hr (fun t ht hW => ⟨⟨0, (), rfl, rfl, by rw [ht]; exact hP9, hD9⟩, hS.F ht⟩) hS.2.2 dX11_read_101
