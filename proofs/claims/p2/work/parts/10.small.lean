theorem t_139 : (Jvm.Cond.initialized "MakerStarts$Text") ∈ TB := inTB 139 (by decide +kernel) (by decide +kernel)
theorem t_214 : (Jvm.Cond.fieldLink "MakerStarts$Text" (31 : Nat) "MakerStarts$Text" "count" "I") ∈ TB := inTB 214 (by decide +kernel) (by decide +kernel)
theorem t_217 : (Jvm.Cond.fieldLink "MakerStarts" (79 : Nat) "MakerStarts$Text" "count" "I") ∈ TB := inTB 217 (by decide +kernel) (by decide +kernel)
theorem t_474 : (Jvm.Cond.fieldLink "MakerStarts" (82 : Nat) "MakerStarts$Machine" "markCount" "I") ∈ TB := inTB 474 (by decide +kernel) (by decide +kernel)
theorem t_476 : (Jvm.Cond.fieldLink "MakerStarts" (85 : Nat) "MakerStarts$Machine" "made" "I") ∈ TB := inTB 476 (by decide +kernel) (by decide +kernel)
theorem t_478 : (Jvm.Cond.fieldLink "MakerStarts" (88 : Nat) "MakerStarts$Machine" "steps" "I") ∈ TB := inTB 478 (by decide +kernel) (by decide +kernel)
theorem t_534 : (Jvm.Cond.fieldLink "MakerStarts" (13 : Nat) "MakerStarts" "bytes" "I") ∈ TB := inTB 534 (by decide +kernel) (by decide +kernel)
theorem t_535 : (Jvm.Cond.fieldLink "MakerStarts" (17 : Nat) "MakerStarts" "faultPlace" "I") ∈ TB := inTB 535 (by decide +kernel) (by decide +kernel)
theorem t_536 : (Jvm.Cond.fieldLink "MakerStarts" (23 : Nat) "MakerStarts" "text" "LMakerStarts$Text;") ∈ TB := inTB 536 (by decide +kernel) (by decide +kernel)
theorem t_540 : (Jvm.Cond.fieldLink "MakerStarts" (49 : Nat) "MakerStarts" "machine" "LMakerStarts$Machine;") ∈ TB := inTB 540 (by decide +kernel) (by decide +kernel)
theorem t_1263 : (Jvm.Cond.instanceMethod ({ cls := "MakerStarts$Text", name := "typeAt", desc := "(I)LMakerStarts$Type;" } : Jvm.MethodName)) ∈ TB := inTB 1263 (by decide +kernel) (by decide +kernel)
theorem t_1264 : (Jvm.Cond.selects "MakerStarts$Text" ({ cls := "MakerStarts$Text", name := "typeAt", desc := "(I)LMakerStarts$Type;" } : Jvm.MethodName) ({ cls := "MakerStarts$Text", name := "typeAt", desc := "(I)LMakerStarts$Type;" } : Jvm.MethodName)) ∈ TB := inTB 1264 (by decide +kernel) (by decide +kernel)
theorem t_1265 : (Jvm.Cond.code ({ cls := "MakerStarts$Text", name := "typeAt", desc := "(I)LMakerStarts$Type;" } : Jvm.MethodName) prog_9_method_4_code (2 : Nat) (Option.some (Jvm.ClassFile.FieldType.object "MakerStarts$Type"))) ∈ TB := inTB 1265 (by decide +kernel) (by decide +kernel)
theorem t_1537 : (Jvm.Cond.methodLink "MakerStarts" (91 : Nat) ({ cls := "MakerStarts$Text", name := "typeAt", desc := "(I)LMakerStarts$Type;" } : Jvm.MethodName)) ∈ TB := inTB 1537 (by decide +kernel) (by decide +kernel)
theorem t_1715 : (Jvm.Cond.fieldLink "MakerStartsModel" (177 : Nat) "MakerStartsModel" "code" "I") ∈ TB := inTB 1715 (by decide +kernel) (by decide +kernel)
theorem t_1717 : (Jvm.Cond.fieldLink "MakerStartsModel" (180 : Nat) "MakerStartsModel" "size" "I") ∈ TB := inTB 1717 (by decide +kernel) (by decide +kernel)
theorem t_1730 : (Jvm.Cond.fieldLink "MakerStartsModel" (414 : Nat) "MakerStartsModel" "half" "I") ∈ TB := inTB 1730 (by decide +kernel) (by decide +kernel)
theorem t_1776 : (Jvm.Cond.fieldLink "MakerStartsModel" (424 : Nat) "MakerStartsModel" "marks" "I") ∈ TB := inTB 1776 (by decide +kernel) (by decide +kernel)
theorem t_1777 : (Jvm.Cond.fieldLink "MakerStartsModel" (427 : Nat) "MakerStartsModel" "things" "I") ∈ TB := inTB 1777 (by decide +kernel) (by decide +kernel)
theorem t_1778 : (Jvm.Cond.fieldLink "MakerStartsModel" (430 : Nat) "MakerStartsModel" "steps" "I") ∈ TB := inTB 1778 (by decide +kernel) (by decide +kernel)
theorem dX11_fails_0 : decode cX11_fails 0 = .ok (.aload_n 0, 1) := by decide +kernel
theorem dX11_fails_1 : decode cX11_fails 1 = .ok (.getfield 23, 3) := by decide +kernel
theorem dX11_fails_4 : decode cX11_fails 4 = .ok (.iload_n 1, 1) := by decide +kernel
theorem dX11_fails_5 : decode cX11_fails 5 = .ok (.invokevirtual 91, 3) := by decide +kernel
theorem dX11_fails_8 : decode cX11_fails 8 = .ok (.astore_n 3, 1) := by decide +kernel
theorem dX11_fails_9 : decode cX11_fails 9 = .ok (.aload_n 3, 1) := by decide +kernel
theorem dX11_fails_10 : decode cX11_fails 10 = .ok (.ifnonnull 7, 3) := by decide +kernel
theorem dX11_fails_13 : decode cX11_fails 13 = .ok (.aconst_null, 1) := by decide +kernel
theorem dX11_fails_14 : decode cX11_fails 14 = .ok (.goto 8, 3) := by decide +kernel
theorem dX11_fails_22 : decode cX11_fails 22 = .ok (.astore 4, 2) := by decide +kernel
theorem dX11_fails_24 : decode cX11_fails 24 = .ok (.aload 4, 2) := by decide +kernel
theorem dX11_fails_26 : decode cX11_fails 26 = .ok (.ifnonnull 7, 3) := by decide +kernel
theorem dX11_fails_29 : decode cX11_fails 29 = .ok (.iconst (-1), 1) := by decide +kernel
theorem dX11_fails_30 : decode cX11_fails 30 = .ok (.goto 11, 3) := by decide +kernel
theorem dX11_fails_41 : decode cX11_fails 41 = .ok (.ireturn, 1) := by decide +kernel
theorem dX11_make_0 : decode cX11_make 0 = .ok (.aload_n 0, 1) := by decide +kernel
theorem dX11_make_1 : decode cX11_make 1 = .ok (.getfield 23, 3) := by decide +kernel
theorem dX11_make_4 : decode cX11_make 4 = .ok (.iload_n 1, 1) := by decide +kernel
theorem dX11_make_5 : decode cX11_make 5 = .ok (.invokevirtual 91, 3) := by decide +kernel
theorem dX11_make_8 : decode cX11_make 8 = .ok (.astore 6, 2) := by decide +kernel
theorem dX11_make_10 : decode cX11_make 10 = .ok (.aload 6, 2) := by decide +kernel
theorem dX11_make_12 : decode cX11_make 12 = .ok (.ifnonnull 5, 3) := by decide +kernel
theorem dX11_make_15 : decode cX11_make 15 = .ok (.iconst (-1), 1) := by decide +kernel
theorem dX11_make_16 : decode cX11_make 16 = .ok (.ireturn, 1) := by decide +kernel
theorem dX11_place_0 : decode cX11_place 0 = .ok (.aload_n 0, 1) := by decide +kernel
theorem dX11_place_1 : decode cX11_place 1 = .ok (.getfield 17, 3) := by decide +kernel
theorem dX11_place_4 : decode cX11_place 4 = .ok (.ireturn, 1) := by decide +kernel
theorem dX11_start_0 : decode cX11_start 0 = .ok (.aload_n 0, 1) := by decide +kernel
theorem dX11_start_1 : decode cX11_start 1 = .ok (.getfield 23, 3) := by decide +kernel
theorem dX11_start_4 : decode cX11_start 4 = .ok (.iload_n 1, 1) := by decide +kernel
theorem dX11_start_5 : decode cX11_start 5 = .ok (.invokevirtual 91, 3) := by decide +kernel
theorem dX11_start_8 : decode cX11_start 8 = .ok (.astore_n 2, 1) := by decide +kernel
theorem dX11_start_9 : decode cX11_start 9 = .ok (.aload_n 2, 1) := by decide +kernel
theorem dX11_start_10 : decode cX11_start 10 = .ok (.ifnonnull 7, 3) := by decide +kernel
theorem dX11_start_13 : decode cX11_start 13 = .ok (.iconst (-1), 1) := by decide +kernel
theorem dX11_start_14 : decode cX11_start 14 = .ok (.goto 11, 3) := by decide +kernel
theorem dX11_start_25 : decode cX11_start 25 = .ok (.ireturn, 1) := by decide +kernel
theorem dX11_told_0 : decode cX11_told 0 = .ok (.iload_n 1, 1) := by decide +kernel
theorem dX11_told_1 : decode cX11_told 1 = .ok (.tableswitch 72 0 4 #[35, 43, 51, 56, 64], 35) := by decide +kernel
theorem dX11_told_36 : decode cX11_told 36 = .ok (.aload_n 0, 1) := by decide +kernel
theorem dX11_told_37 : decode cX11_told 37 = .ok (.getfield 23, 3) := by decide +kernel
theorem dX11_told_40 : decode cX11_told 40 = .ok (.getfield 79, 3) := by decide +kernel
theorem dX11_told_43 : decode cX11_told 43 = .ok (.ireturn, 1) := by decide +kernel
theorem dX11_told_44 : decode cX11_told 44 = .ok (.aload_n 0, 1) := by decide +kernel
theorem dX11_told_45 : decode cX11_told 45 = .ok (.getfield 49, 3) := by decide +kernel
theorem dX11_told_48 : decode cX11_told 48 = .ok (.getfield 82, 3) := by decide +kernel
theorem dX11_told_51 : decode cX11_told 51 = .ok (.ireturn, 1) := by decide +kernel
theorem dX11_told_52 : decode cX11_told 52 = .ok (.aload_n 0, 1) := by decide +kernel
theorem dX11_told_53 : decode cX11_told 53 = .ok (.getfield 13, 3) := by decide +kernel
theorem dX11_told_56 : decode cX11_told 56 = .ok (.ireturn, 1) := by decide +kernel
theorem dX11_told_57 : decode cX11_told 57 = .ok (.aload_n 0, 1) := by decide +kernel
theorem dX11_told_58 : decode cX11_told 58 = .ok (.getfield 49, 3) := by decide +kernel
theorem dX11_told_61 : decode cX11_told 61 = .ok (.getfield 85, 3) := by decide +kernel
theorem dX11_told_64 : decode cX11_told 64 = .ok (.ireturn, 1) := by decide +kernel
theorem dX11_told_65 : decode cX11_told 65 = .ok (.aload_n 0, 1) := by decide +kernel
theorem dX11_told_66 : decode cX11_told 66 = .ok (.getfield 49, 3) := by decide +kernel
theorem dX11_told_69 : decode cX11_told 69 = .ok (.getfield 88, 3) := by decide +kernel
theorem dX11_told_72 : decode cX11_told 72 = .ok (.ireturn, 1) := by decide +kernel
theorem dX11_told_73 : decode cX11_told 73 = .ok (.bipush (-2), 2) := by decide +kernel
theorem dX11_told_75 : decode cX11_told 75 = .ok (.ireturn, 1) := by decide +kernel
theorem dX11_type_0 : decode cX11_type 0 = .ok (.aload_n 0, 1) := by decide +kernel
theorem dX11_type_1 : decode cX11_type 1 = .ok (.getfield 23, 3) := by decide +kernel
theorem dX11_type_4 : decode cX11_type 4 = .ok (.iload_n 1, 1) := by decide +kernel
theorem dX11_type_5 : decode cX11_type 5 = .ok (.invokevirtual 91, 3) := by decide +kernel
theorem dX11_type_8 : decode cX11_type 8 = .ok (.astore_n 3, 1) := by decide +kernel
theorem dX11_type_9 : decode cX11_type 9 = .ok (.aload_n 3, 1) := by decide +kernel
theorem dX11_type_10 : decode cX11_type 10 = .ok (.ifnonnull 5, 3) := by decide +kernel
theorem dX11_type_13 : decode cX11_type 13 = .ok (.iconst (-1), 1) := by decide +kernel
theorem dX11_type_14 : decode cX11_type 14 = .ok (.ireturn, 1) := by decide +kernel
theorem dX12_fails_0 : decode cX12_fails 0 = .ok (.aload_n 0, 1) := by decide +kernel
theorem dX12_fails_1 : decode cX12_fails 1 = .ok (.iconst 0, 1) := by decide +kernel
theorem dX12_fails_2 : decode cX12_fails 2 = .ok (.putfield 177, 3) := by decide +kernel
theorem dX12_fails_5 : decode cX12_fails 5 = .ok (.iload_n 1, 1) := by decide +kernel
theorem dX12_fails_6 : decode cX12_fails 6 = .ok (.ifCond .lt 25, 3) := by decide +kernel
theorem dX12_fails_9 : decode cX12_fails 9 = .ok (.iload_n 1, 1) := by decide +kernel
theorem dX12_fails_10 : decode cX12_fails 10 = .ok (.aload_n 0, 1) := by decide +kernel
theorem dX12_fails_11 : decode cX12_fails 11 = .ok (.getfield 59, 3) := by decide +kernel
theorem dX12_fails_14 : decode cX12_fails 14 = .ok (.aload_n 0, 1) := by decide +kernel
theorem dX12_fails_15 : decode cX12_fails 15 = .ok (.getfield 414, 3) := by decide +kernel
theorem dX12_fails_18 : decode cX12_fails 18 = .ok (.iaload, 1) := by decide +kernel
theorem dX12_fails_19 : decode cX12_fails 19 = .ok (.if_icmp .ge 12, 3) := by decide +kernel
theorem dX12_fails_31 : decode cX12_fails 31 = .ok (.iconst (-1), 1) := by decide +kernel
theorem dX12_fails_32 : decode cX12_fails 32 = .ok (.ireturn, 1) := by decide +kernel
theorem dX12_make_0 : decode cX12_make 0 = .ok (.aload_n 0, 1) := by decide +kernel
theorem dX12_make_1 : decode cX12_make 1 = .ok (.iconst 0, 1) := by decide +kernel
theorem dX12_make_2 : decode cX12_make 2 = .ok (.putfield 177, 3) := by decide +kernel
theorem dX12_make_5 : decode cX12_make 5 = .ok (.iload_n 1, 1) := by decide +kernel
theorem dX12_make_6 : decode cX12_make 6 = .ok (.ifCond .lt 16, 3) := by decide +kernel
theorem dX12_make_9 : decode cX12_make 9 = .ok (.iload_n 1, 1) := by decide +kernel
theorem dX12_make_10 : decode cX12_make 10 = .ok (.aload_n 0, 1) := by decide +kernel
theorem dX12_make_11 : decode cX12_make 11 = .ok (.getfield 59, 3) := by decide +kernel
theorem dX12_make_14 : decode cX12_make 14 = .ok (.aload_n 0, 1) := by decide +kernel
theorem dX12_make_15 : decode cX12_make 15 = .ok (.getfield 414, 3) := by decide +kernel
theorem dX12_make_18 : decode cX12_make 18 = .ok (.iaload, 1) := by decide +kernel
theorem dX12_make_19 : decode cX12_make 19 = .ok (.if_icmp .lt 5, 3) := by decide +kernel
theorem dX12_make_22 : decode cX12_make 22 = .ok (.iconst (-1), 1) := by decide +kernel
theorem dX12_make_23 : decode cX12_make 23 = .ok (.ireturn, 1) := by decide +kernel
theorem dX12_place_0 : decode cX12_place 0 = .ok (.aload_n 0, 1) := by decide +kernel
theorem dX12_place_1 : decode cX12_place 1 = .ok (.iconst 0, 1) := by decide +kernel
theorem dX12_place_2 : decode cX12_place 2 = .ok (.putfield 177, 3) := by decide +kernel
theorem dX12_place_5 : decode cX12_place 5 = .ok (.aload_n 0, 1) := by decide +kernel
theorem dX12_place_6 : decode cX12_place 6 = .ok (.getfield 13, 3) := by decide +kernel
theorem dX12_place_9 : decode cX12_place 9 = .ok (.ireturn, 1) := by decide +kernel
theorem dX12_start_0 : decode cX12_start 0 = .ok (.aload_n 0, 1) := by decide +kernel
theorem dX12_start_1 : decode cX12_start 1 = .ok (.iconst 0, 1) := by decide +kernel
theorem dX12_start_2 : decode cX12_start 2 = .ok (.putfield 177, 3) := by decide +kernel
theorem dX12_start_5 : decode cX12_start 5 = .ok (.iload_n 1, 1) := by decide +kernel
theorem dX12_start_6 : decode cX12_start 6 = .ok (.ifCond .lt 16, 3) := by decide +kernel
theorem dX12_start_9 : decode cX12_start 9 = .ok (.iload_n 1, 1) := by decide +kernel
theorem dX12_start_10 : decode cX12_start 10 = .ok (.aload_n 0, 1) := by decide +kernel
theorem dX12_start_11 : decode cX12_start 11 = .ok (.getfield 59, 3) := by decide +kernel
theorem dX12_start_14 : decode cX12_start 14 = .ok (.aload_n 0, 1) := by decide +kernel
theorem dX12_start_15 : decode cX12_start 15 = .ok (.getfield 414, 3) := by decide +kernel
theorem dX12_start_18 : decode cX12_start 18 = .ok (.iaload, 1) := by decide +kernel
theorem dX12_start_19 : decode cX12_start 19 = .ok (.if_icmp .lt 5, 3) := by decide +kernel
theorem dX12_start_22 : decode cX12_start 22 = .ok (.iconst (-1), 1) := by decide +kernel
theorem dX12_start_23 : decode cX12_start 23 = .ok (.ireturn, 1) := by decide +kernel
theorem dX12_told_0 : decode cX12_told 0 = .ok (.aload_n 0, 1) := by decide +kernel
theorem dX12_told_1 : decode cX12_told 1 = .ok (.iconst 0, 1) := by decide +kernel
theorem dX12_told_2 : decode cX12_told 2 = .ok (.putfield 177, 3) := by decide +kernel
theorem dX12_told_5 : decode cX12_told 5 = .ok (.iload_n 1, 1) := by decide +kernel
theorem dX12_told_6 : decode cX12_told 6 = .ok (.ifCond .ne 15, 3) := by decide +kernel
theorem dX12_told_9 : decode cX12_told 9 = .ok (.aload_n 0, 1) := by decide +kernel
theorem dX12_told_10 : decode cX12_told 10 = .ok (.getfield 59, 3) := by decide +kernel
theorem dX12_told_13 : decode cX12_told 13 = .ok (.aload_n 0, 1) := by decide +kernel
theorem dX12_told_14 : decode cX12_told 14 = .ok (.getfield 414, 3) := by decide +kernel
theorem dX12_told_17 : decode cX12_told 17 = .ok (.iaload, 1) := by decide +kernel
theorem dX12_told_18 : decode cX12_told 18 = .ok (.goto 53, 3) := by decide +kernel
theorem dX12_told_21 : decode cX12_told 21 = .ok (.iload_n 1, 1) := by decide +kernel
theorem dX12_told_22 : decode cX12_told 22 = .ok (.iconst 1, 1) := by decide +kernel
theorem dX12_told_23 : decode cX12_told 23 = .ok (.if_icmp .ne 10, 3) := by decide +kernel
theorem dX12_told_26 : decode cX12_told 26 = .ok (.aload_n 0, 1) := by decide +kernel
theorem dX12_told_27 : decode cX12_told 27 = .ok (.getfield 424, 3) := by decide +kernel
theorem dX12_told_30 : decode cX12_told 30 = .ok (.goto 41, 3) := by decide +kernel
theorem dX12_told_33 : decode cX12_told 33 = .ok (.iload_n 1, 1) := by decide +kernel
theorem dX12_told_34 : decode cX12_told 34 = .ok (.iconst 2, 1) := by decide +kernel
theorem dX12_told_35 : decode cX12_told 35 = .ok (.if_icmp .ne 10, 3) := by decide +kernel
theorem dX12_told_38 : decode cX12_told 38 = .ok (.aload_n 0, 1) := by decide +kernel
theorem dX12_told_39 : decode cX12_told 39 = .ok (.getfield 180, 3) := by decide +kernel
theorem dX12_told_42 : decode cX12_told 42 = .ok (.goto 29, 3) := by decide +kernel
theorem dX12_told_45 : decode cX12_told 45 = .ok (.iload_n 1, 1) := by decide +kernel
theorem dX12_told_46 : decode cX12_told 46 = .ok (.iconst 3, 1) := by decide +kernel
theorem dX12_told_47 : decode cX12_told 47 = .ok (.if_icmp .ne 10, 3) := by decide +kernel
theorem dX12_told_50 : decode cX12_told 50 = .ok (.aload_n 0, 1) := by decide +kernel
theorem dX12_told_51 : decode cX12_told 51 = .ok (.getfield 427, 3) := by decide +kernel
theorem dX12_told_54 : decode cX12_told 54 = .ok (.goto 17, 3) := by decide +kernel
theorem dX12_told_57 : decode cX12_told 57 = .ok (.iload_n 1, 1) := by decide +kernel
theorem dX12_told_58 : decode cX12_told 58 = .ok (.iconst 4, 1) := by decide +kernel
theorem dX12_told_59 : decode cX12_told 59 = .ok (.if_icmp .ne 10, 3) := by decide +kernel
theorem dX12_told_62 : decode cX12_told 62 = .ok (.aload_n 0, 1) := by decide +kernel
theorem dX12_told_63 : decode cX12_told 63 = .ok (.getfield 430, 3) := by decide +kernel
theorem dX12_told_66 : decode cX12_told 66 = .ok (.goto 5, 3) := by decide +kernel
theorem dX12_told_69 : decode cX12_told 69 = .ok (.bipush (-2), 2) := by decide +kernel
theorem dX12_told_71 : decode cX12_told 71 = .ok (.ireturn, 1) := by decide +kernel
theorem dX12_type_0 : decode cX12_type 0 = .ok (.aload_n 0, 1) := by decide +kernel
theorem dX12_type_1 : decode cX12_type 1 = .ok (.iconst 0, 1) := by decide +kernel
theorem dX12_type_2 : decode cX12_type 2 = .ok (.putfield 177, 3) := by decide +kernel
theorem dX12_type_5 : decode cX12_type 5 = .ok (.iload_n 1, 1) := by decide +kernel
theorem dX12_type_6 : decode cX12_type 6 = .ok (.ifCond .lt 16, 3) := by decide +kernel
theorem dX12_type_9 : decode cX12_type 9 = .ok (.iload_n 1, 1) := by decide +kernel
theorem dX12_type_10 : decode cX12_type 10 = .ok (.aload_n 0, 1) := by decide +kernel
theorem dX12_type_11 : decode cX12_type 11 = .ok (.getfield 59, 3) := by decide +kernel
theorem dX12_type_14 : decode cX12_type 14 = .ok (.aload_n 0, 1) := by decide +kernel
theorem dX12_type_15 : decode cX12_type 15 = .ok (.getfield 414, 3) := by decide +kernel
theorem dX12_type_18 : decode cX12_type 18 = .ok (.iaload, 1) := by decide +kernel
theorem dX12_type_19 : decode cX12_type 19 = .ok (.if_icmp .lt 5, 3) := by decide +kernel
theorem dX12_type_22 : decode cX12_type 22 = .ok (.iconst (-1), 1) := by decide +kernel
theorem dX12_type_23 : decode cX12_type 23 = .ok (.ireturn, 1) := by decide +kernel
theorem dX7_typeAt_0 : decode cX7_typeAt 0 = .ok (.iload_n 1, 1) := by decide +kernel
theorem dX7_typeAt_1 : decode cX7_typeAt 1 = .ok (.ifCond .lt 26, 3) := by decide +kernel
theorem dX7_typeAt_4 : decode cX7_typeAt 4 = .ok (.iload_n 1, 1) := by decide +kernel
theorem dX7_typeAt_5 : decode cX7_typeAt 5 = .ok (.aload_n 0, 1) := by decide +kernel
theorem dX7_typeAt_6 : decode cX7_typeAt 6 = .ok (.getfield 31, 3) := by decide +kernel
theorem dX7_typeAt_9 : decode cX7_typeAt 9 = .ok (.if_icmp .ge 18, 3) := by decide +kernel
theorem dX7_typeAt_27 : decode cX7_typeAt 27 = .ok (.aconst_null, 1) := by decide +kernel
theorem dX7_typeAt_28 : decode cX7_typeAt 28 = .ok (.areturn, 1) := by decide +kernel
set_option maxHeartbeats 4000000 in
set_option maxRecDepth 100000 in
theorem c_place (l : Launch) (D : va_G) (cy : Nat → ClassId) (sz : Nat) (hx0 : Nat) (xa : Nat → Nat) : Met l yX11_place (.code yX11_place cX11_place 1 (some .int) :: TB) ({ frames := 0, cells := 0, slots := 0, locals := 0 }) (va_Pc [.ref hx0] (fun U => U.heap.size = sz ∧ va_P D vwCl [(hx0, .inr (11, [.ref (xa 0), .int 0, .int (-1), .ref (xa 1), .ref (xa 2), .ref (xa 3), .ref (xa 4), .ref (xa 5)]))] U.heap ∧ va_K D vwCl (TY cy) U ∧ va_D (fun _ => True) [(hx0, .inr (11, [.ref (xa 0), .int 0, .int (-1), .ref (xa 1), .ref (xa 2), .ref (xa 3), .ref (xa 4), .ref (xa 5)]))])) (va_Qi (fun (r : Int32) (u : Unit) => r = -1) (fun (u : Unit) t => va_P D vwCl [] t.heap ∧ va_D (va_A [(hx0, .inr (11, [.ref (xa 0), .int 0, .int (-1), .ref (xa 1), .ref (xa 2), .ref (xa 3), .ref (xa 4), .ref (xa 5)]))] sz) []) (va_A [(hx0, .inr (11, [.ref (xa 0), .int 0, .int (-1), .ref (xa 1), .ref (xa 2), .ref (xa 3), .ref (xa 4), .ref (xa 5)]))] sz)) 0 0 (va_A [(hx0, .inr (11, [.ref (xa 0), .int 0, .int (-1), .ref (xa 1), .ref (xa 2), .ref (xa 3), .ref (xa 4), .ref (xa 5)]))] sz) := by
  refine Met.ofW (cc := cX11_place) (maxL := 1) (ret := (some .int)) (by decide) rfl ?_
  intro p e s m args below meth c s₁ B hml hv
  obtain ⟨rfl, hsz, hP, hK, hD0⟩ := hv
  have hx := B.exec
  have hb := B.bytes
  have hr := B.returns
  have hts := atoms_spec (ws := .code yX11_place cX11_place 1 (some .int) :: TB) B.pre
  have hT : ∀ w ∈ TB, w.before _ s = true := fun w h => hts w (List.mem_cons_of_mem _ h)
  have hown : s.vm.findClass "MakerStarts" = some m.cls := findClass_of_methodNamed B.named
  have hlocks := B.notSynchronized
  subst hsz
  have hD := hD0.self (sz := s.heap.size)
  generalize hAe : va_A [(hx0, .inr (11, [.ref (xa 0), .int 0, .int (-1), .ref (xa 1), .ref (xa 2), .ref (xa 3), .ref (xa 4), .ref (xa 5)]))] s.heap.size = A at hD  ⊢
  have hA : ∀ q : Nat, s.heap.size ≤ q → A q := fun q h => by rw [← hAe]; exact Or.inr h
  have hS : va_S A s.heap s.heap [] := va_S.rf
  have hP : va_P D vwCl [(hx0, .inr (11, [.ref (xa 0), .int 0, .int (-1), .ref (xa 1), .ref (xa 2), .ref (xa 3), .ref (xa 4), .ref (xa 5)]))] s.heap := hP
  have hl := lv_entry ([.ref hx0]) (n := 1) (Nat.le_of_ble_eq_true rfl)
  rw [lg_entry_eq]
  generalize (lg_sl ([.ref hx0]) ++ List.replicate (1 - (lg_sl ([.ref hx0])).length) Slot.unset).toArray = ls at hl ⊢
  have hl : lv_has ls 1 [(0, .ref hx0)] := hl
  refine lv_aload_n hx hb dX11_place_0 rfl (lv_at hl 0 rfl) ?_
  refine va_get (D := D) (ci := 11) (v := .int (-1)) (C := RX11) (T := TX11) (N := 8) hx hb hT i_TX11 hown hK hP 0 rfl rfl 2 (by decide) (hT _ t_535) (fun _ h9 => h9) rfl dX11_place_1 ?_
  have hP9 := hP.sub (ws' := []) [] rfl
  have hD9 := hD.sub (ws' := []) [] (by decide) rfl
  refine W.widen (k := 0) (n := 0) (Nat.le_of_ble_eq_true rfl) (Nat.le_of_ble_eq_true rfl) ?_
  exact W.iret (v := (-1)) hx hb hr (fun t ht hW => ⟨⟨(-1), (), rfl, rfl, by rw [ht]; exact hP9, hD9⟩, hS.F ht⟩) hS.2.2 dX11_place_4

set_option maxHeartbeats 4000000 in
set_option maxRecDepth 100000 in
theorem m_place (l : Launch) (D : va_G) (cy : Nat → ClassId) (sz : Nat) (hm : Nat) (ma : Nat → Nat) : Met l yX12_place (.code yX12_place cX12_place 1 (some .int) :: TB) ({ frames := 0, cells := 0, slots := 0, locals := 0 }) (va_Pc [.ref hm] (fun U => U.heap.size = sz ∧ va_P D vwCl [(hm, .inr (12, [.int 0, .ref (ma 1), .int 0, .int (-1), .ref (ma 4), .int 0, .int 0, .int 0, .long 0, .int 0, .int 0, .int 0, .int 0, .long 0, .int 0, .int 0, .int 0, .ref (ma 17), .ref (ma 18), .ref (ma 19), .ref (ma 20), .ref (ma 21), .ref (ma 22), .ref (ma 23), .ref (ma 24), .ref (ma 25), .ref (ma 26), .ref (ma 27), .ref (ma 28), .ref (ma 29), .ref (ma 30), .ref (ma 31), .ref (ma 32), .ref (ma 33), .ref (ma 34), .ref (ma 35), .ref (ma 36), .ref (ma 37), .ref (ma 38), .ref (ma 39), .ref (ma 40), .ref (ma 41), .ref (ma 42), .ref (ma 43), .ref (ma 44), .ref (ma 45), .ref (ma 46), .ref (ma 47), .ref (ma 48), .int 0, .int 0, .int 0, .int 0, .int 0, .int 0, .int 0, .int 0, .int 0, .int 0, .ref (ma 59), .ref (ma 60), .int 0, .int 0, .int 0, .int 0, .int 0, .int 0, .ref (ma 67), .ref (ma 68), .ref (ma 69), .int 0, .int (-1), .int 0, .ref (ma 73)]))] U.heap ∧ va_K D vwCl (TY cy) U ∧ va_D (fun _ => True) [(hm, .inr (12, [.int 0, .ref (ma 1), .int 0, .int (-1), .ref (ma 4), .int 0, .int 0, .int 0, .long 0, .int 0, .int 0, .int 0, .int 0, .long 0, .int 0, .int 0, .int 0, .ref (ma 17), .ref (ma 18), .ref (ma 19), .ref (ma 20), .ref (ma 21), .ref (ma 22), .ref (ma 23), .ref (ma 24), .ref (ma 25), .ref (ma 26), .ref (ma 27), .ref (ma 28), .ref (ma 29), .ref (ma 30), .ref (ma 31), .ref (ma 32), .ref (ma 33), .ref (ma 34), .ref (ma 35), .ref (ma 36), .ref (ma 37), .ref (ma 38), .ref (ma 39), .ref (ma 40), .ref (ma 41), .ref (ma 42), .ref (ma 43), .ref (ma 44), .ref (ma 45), .ref (ma 46), .ref (ma 47), .ref (ma 48), .int 0, .int 0, .int 0, .int 0, .int 0, .int 0, .int 0, .int 0, .int 0, .int 0, .ref (ma 59), .ref (ma 60), .int 0, .int 0, .int 0, .int 0, .int 0, .int 0, .ref (ma 67), .ref (ma 68), .ref (ma 69), .int 0, .int (-1), .int 0, .ref (ma 73)]))])) (va_Qi (fun (r : Int32) (u : Unit) => r = -1) (fun (u : Unit) t => va_P D vwCl [] t.heap ∧ va_D (va_A [(hm, .inr (12, [.int 0, .ref (ma 1), .int 0, .int (-1), .ref (ma 4), .int 0, .int 0, .int 0, .long 0, .int 0, .int 0, .int 0, .int 0, .long 0, .int 0, .int 0, .int 0, .ref (ma 17), .ref (ma 18), .ref (ma 19), .ref (ma 20), .ref (ma 21), .ref (ma 22), .ref (ma 23), .ref (ma 24), .ref (ma 25), .ref (ma 26), .ref (ma 27), .ref (ma 28), .ref (ma 29), .ref (ma 30), .ref (ma 31), .ref (ma 32), .ref (ma 33), .ref (ma 34), .ref (ma 35), .ref (ma 36), .ref (ma 37), .ref (ma 38), .ref (ma 39), .ref (ma 40), .ref (ma 41), .ref (ma 42), .ref (ma 43), .ref (ma 44), .ref (ma 45), .ref (ma 46), .ref (ma 47), .ref (ma 48), .int 0, .int 0, .int 0, .int 0, .int 0, .int 0, .int 0, .int 0, .int 0, .int 0, .ref (ma 59), .ref (ma 60), .int 0, .int 0, .int 0, .int 0, .int 0, .int 0, .ref (ma 67), .ref (ma 68), .ref (ma 69), .int 0, .int (-1), .int 0, .ref (ma 73)]))] sz) []) (va_A [(hm, .inr (12, [.int 0, .ref (ma 1), .int 0, .int (-1), .ref (ma 4), .int 0, .int 0, .int 0, .long 0, .int 0, .int 0, .int 0, .int 0, .long 0, .int 0, .int 0, .int 0, .ref (ma 17), .ref (ma 18), .ref (ma 19), .ref (ma 20), .ref (ma 21), .ref (ma 22), .ref (ma 23), .ref (ma 24), .ref (ma 25), .ref (ma 26), .ref (ma 27), .ref (ma 28), .ref (ma 29), .ref (ma 30), .ref (ma 31), .ref (ma 32), .ref (ma 33), .ref (ma 34), .ref (ma 35), .ref (ma 36), .ref (ma 37), .ref (ma 38), .ref (ma 39), .ref (ma 40), .ref (ma 41), .ref (ma 42), .ref (ma 43), .ref (ma 44), .ref (ma 45), .ref (ma 46), .ref (ma 47), .ref (ma 48), .int 0, .int 0, .int 0, .int 0, .int 0, .int 0, .int 0, .int 0, .int 0, .int 0, .ref (ma 59), .ref (ma 60), .int 0, .int 0, .int 0, .int 0, .int 0, .int 0, .ref (ma 67), .ref (ma 68), .ref (ma 69), .int 0, .int (-1), .int 0, .ref (ma 73)]))] sz)) 0 0 (va_A [(hm, .inr (12, [.int 0, .ref (ma 1), .int 0, .int (-1), .ref (ma 4), .int 0, .int 0, .int 0, .long 0, .int 0, .int 0, .int 0, .int 0, .long 0, .int 0, .int 0, .int 0, .ref (ma 17), .ref (ma 18), .ref (ma 19), .ref (ma 20), .ref (ma 21), .ref (ma 22), .ref (ma 23), .ref (ma 24), .ref (ma 25), .ref (ma 26), .ref (ma 27), .ref (ma 28), .ref (ma 29), .ref (ma 30), .ref (ma 31), .ref (ma 32), .ref (ma 33), .ref (ma 34), .ref (ma 35), .ref (ma 36), .ref (ma 37), .ref (ma 38), .ref (ma 39), .ref (ma 40), .ref (ma 41), .ref (ma 42), .ref (ma 43), .ref (ma 44), .ref (ma 45), .ref (ma 46), .ref (ma 47), .ref (ma 48), .int 0, .int 0, .int 0, .int 0, .int 0, .int 0, .int 0, .int 0, .int 0, .int 0, .ref (ma 59), .ref (ma 60), .int 0, .int 0, .int 0, .int 0, .int 0, .int 0, .ref (ma 67), .ref (ma 68), .ref (ma 69), .int 0, .int (-1), .int 0, .ref (ma 73)]))] sz) := by
  refine Met.ofW (cc := cX12_place) (maxL := 1) (ret := (some .int)) (by decide) rfl ?_
  intro p e s m args below meth c s₁ B hml hv
  obtain ⟨rfl, hsz, hP, hK, hD0⟩ := hv
  have hx := B.exec
  have hb := B.bytes
  have hr := B.returns
  have hts := atoms_spec (ws := .code yX12_place cX12_place 1 (some .int) :: TB) B.pre
  have hT : ∀ w ∈ TB, w.before _ s = true := fun w h => hts w (List.mem_cons_of_mem _ h)
  have hown : s.vm.findClass "MakerStartsModel" = some m.cls := findClass_of_methodNamed B.named
  have hlocks := B.notSynchronized
  subst hsz
  have hD := hD0.self (sz := s.heap.size)
  generalize hAe : va_A [(hm, .inr (12, [.int 0, .ref (ma 1), .int 0, .int (-1), .ref (ma 4), .int 0, .int 0, .int 0, .long 0, .int 0, .int 0, .int 0, .int 0, .long 0, .int 0, .int 0, .int 0, .ref (ma 17), .ref (ma 18), .ref (ma 19), .ref (ma 20), .ref (ma 21), .ref (ma 22), .ref (ma 23), .ref (ma 24), .ref (ma 25), .ref (ma 26), .ref (ma 27), .ref (ma 28), .ref (ma 29), .ref (ma 30), .ref (ma 31), .ref (ma 32), .ref (ma 33), .ref (ma 34), .ref (ma 35), .ref (ma 36), .ref (ma 37), .ref (ma 38), .ref (ma 39), .ref (ma 40), .ref (ma 41), .ref (ma 42), .ref (ma 43), .ref (ma 44), .ref (ma 45), .ref (ma 46), .ref (ma 47), .ref (ma 48), .int 0, .int 0, .int 0, .int 0, .int 0, .int 0, .int 0, .int 0, .int 0, .int 0, .ref (ma 59), .ref (ma 60), .int 0, .int 0, .int 0, .int 0, .int 0, .int 0, .ref (ma 67), .ref (ma 68), .ref (ma 69), .int 0, .int (-1), .int 0, .ref (ma 73)]))] s.heap.size = A at hD  ⊢
  have hA : ∀ q : Nat, s.heap.size ≤ q → A q := fun q h => by rw [← hAe]; exact Or.inr h
  have hS : va_S A s.heap s.heap [] := va_S.rf
  have hP : va_P D vwCl [(hm, .inr (12, [.int 0, .ref (ma 1), .int 0, .int (-1), .ref (ma 4), .int 0, .int 0, .int 0, .long 0, .int 0, .int 0, .int 0, .int 0, .long 0, .int 0, .int 0, .int 0, .ref (ma 17), .ref (ma 18), .ref (ma 19), .ref (ma 20), .ref (ma 21), .ref (ma 22), .ref (ma 23), .ref (ma 24), .ref (ma 25), .ref (ma 26), .ref (ma 27), .ref (ma 28), .ref (ma 29), .ref (ma 30), .ref (ma 31), .ref (ma 32), .ref (ma 33), .ref (ma 34), .ref (ma 35), .ref (ma 36), .ref (ma 37), .ref (ma 38), .ref (ma 39), .ref (ma 40), .ref (ma 41), .ref (ma 42), .ref (ma 43), .ref (ma 44), .ref (ma 45), .ref (ma 46), .ref (ma 47), .ref (ma 48), .int 0, .int 0, .int 0, .int 0, .int 0, .int 0, .int 0, .int 0, .int 0, .int 0, .ref (ma 59), .ref (ma 60), .int 0, .int 0, .int 0, .int 0, .int 0, .int 0, .ref (ma 67), .ref (ma 68), .ref (ma 69), .int 0, .int (-1), .int 0, .ref (ma 73)]))] s.heap := hP
  have hl := lv_entry ([.ref hm]) (n := 1) (Nat.le_of_ble_eq_true rfl)
  rw [lg_entry_eq]
  generalize (lg_sl ([.ref hm]) ++ List.replicate (1 - (lg_sl ([.ref hm])).length) Slot.unset).toArray = ls at hl ⊢
  have hl : lv_has ls 1 [(0, .ref hm)] := hl
  refine lv_aload_n hx hb dX12_place_0 rfl (lv_at hl 0 rfl) ?_
  refine lv_iconst (v := 0) hx hb dX12_place_1 (by decide) ?_
  refine va_put (D := D) (ci := 12) (v := .int 0) (ty := .int) (C := RX12) (T := TX12) (N := 74) hx hb hT i_TX12 tyX12 tyX12_ok nmX12 hown hK hP hD hS 0 rfl rfl 0 (by decide) (hT _ t_1715) (fun _ h9 => h9) rfl (by decide +kernel) rfl rfl (Nat.le_of_ble_eq_true rfl) dX12_place_2 (fun H locs hP hD hS => ?_)
  have hP : va_P D vwCl [(hm, .inr (12, [.int 0, .ref (ma 1), .int 0, .int (-1), .ref (ma 4), .int 0, .int 0, .int 0, .long 0, .int 0, .int 0, .int 0, .int 0, .long 0, .int 0, .int 0, .int 0, .ref (ma 17), .ref (ma 18), .ref (ma 19), .ref (ma 20), .ref (ma 21), .ref (ma 22), .ref (ma 23), .ref (ma 24), .ref (ma 25), .ref (ma 26), .ref (ma 27), .ref (ma 28), .ref (ma 29), .ref (ma 30), .ref (ma 31), .ref (ma 32), .ref (ma 33), .ref (ma 34), .ref (ma 35), .ref (ma 36), .ref (ma 37), .ref (ma 38), .ref (ma 39), .ref (ma 40), .ref (ma 41), .ref (ma 42), .ref (ma 43), .ref (ma 44), .ref (ma 45), .ref (ma 46), .ref (ma 47), .ref (ma 48), .int 0, .int 0, .int 0, .int 0, .int 0, .int 0, .int 0, .int 0, .int 0, .int 0, .ref (ma 59), .ref (ma 60), .int 0, .int 0, .int 0, .int 0, .int 0, .int 0, .ref (ma 67), .ref (ma 68), .ref (ma 69), .int 0, .int (-1), .int 0, .ref (ma 73)]))] H := hP
  have hD : va_D A [(hm, .inr (12, [.int 0, .ref (ma 1), .int 0, .int (-1), .ref (ma 4), .int 0, .int 0, .int 0, .long 0, .int 0, .int 0, .int 0, .int 0, .long 0, .int 0, .int 0, .int 0, .ref (ma 17), .ref (ma 18), .ref (ma 19), .ref (ma 20), .ref (ma 21), .ref (ma 22), .ref (ma 23), .ref (ma 24), .ref (ma 25), .ref (ma 26), .ref (ma 27), .ref (ma 28), .ref (ma 29), .ref (ma 30), .ref (ma 31), .ref (ma 32), .ref (ma 33), .ref (ma 34), .ref (ma 35), .ref (ma 36), .ref (ma 37), .ref (ma 38), .ref (ma 39), .ref (ma 40), .ref (ma 41), .ref (ma 42), .ref (ma 43), .ref (ma 44), .ref (ma 45), .ref (ma 46), .ref (ma 47), .ref (ma 48), .int 0, .int 0, .int 0, .int 0, .int 0, .int 0, .int 0, .int 0, .int 0, .int 0, .ref (ma 59), .ref (ma 60), .int 0, .int 0, .int 0, .int 0, .int 0, .int 0, .ref (ma 67), .ref (ma 68), .ref (ma 69), .int 0, .int (-1), .int 0, .ref (ma 73)]))] := hD
  refine lv_aload_n hx hb dX12_place_5 rfl (lv_at hl 0 rfl) ?_
  refine va_get (D := D) (ci := 12) (v := .int (-1)) (C := RX12) (T := TX12) (N := 74) hx hb hT i_TX12 hown hK hP 0 rfl rfl 3 (by decide) (hT _ t_1718) (fun _ h9 => h9) rfl dX12_place_6 ?_
  have hP9 := hP.sub (ws' := []) [] rfl
  have hD9 := hD.sub (ws' := []) [] (by decide) rfl
  refine W.widen (k := 0) (n := 0) (Nat.le_of_ble_eq_true rfl) (Nat.le_of_ble_eq_true rfl) ?_
  exact W.iret (v := (-1)) hx hb hr (fun t ht hW => ⟨⟨(-1), (), rfl, rfl, by rw [ht]; exact hP9, hD9⟩, hS.F ht⟩) hS.2.2 dX12_place_9

set_option maxHeartbeats 4000000 in
set_option maxRecDepth 100000 in
theorem c_typeAt (l : Launch) (D : va_G) (cy : Nat → ClassId) (sz : Nat) (h0 : Nat) (a1 : Nat) (a2 : Nat) (a3 : Nat) (a4 : Nat) (p0 : Int32) : Met l yX7_typeAt (.code yX7_typeAt cX7_typeAt 2 (some (.object "MakerStarts$Type")) :: TB) ({ frames := 0, cells := 0, slots := 0, locals := 0 }) (va_Pc [.ref h0, .int p0] (fun U => U.heap.size = sz ∧ va_P D vwCl [(h0, .inr (7, [.ref a1, .int 0, .ref a2, .ref a3, .int 0, .ref a4, .int 0, .int 0, .int 0]))] U.heap ∧ va_K D vwCl (TY cy) U ∧ va_D (fun _ => True) [(h0, .inr (7, [.ref a1, .int 0, .ref a2, .ref a3, .int 0, .ref a4, .int 0, .int 0, .int 0]))])) (va_Qq (fun (r : Option Nat) (u : Unit) => r = none) (fun (u : Unit) t => va_P D vwCl [(h0, .inr (7, [.ref a1, .int 0, .ref a2, .ref a3, .int 0, .ref a4, .int 0, .int 0, .int 0]))] t.heap ∧ va_D (va_A [(h0, .inr (7, [.ref a1, .int 0, .ref a2, .ref a3, .int 0, .ref a4, .int 0, .int 0, .int 0]))] sz) [(h0, .inr (7, [.ref a1, .int 0, .ref a2, .ref a3, .int 0, .ref a4, .int 0, .int 0, .int 0]))]) (va_A [(h0, .inr (7, [.ref a1, .int 0, .ref a2, .ref a3, .int 0, .ref a4, .int 0, .int 0, .int 0]))] sz)) 0 0 (va_A [(h0, .inr (7, [.ref a1, .int 0, .ref a2, .ref a3, .int 0, .ref a4, .int 0, .int 0, .int 0]))] sz) := by
  refine Met.ofW (cc := cX7_typeAt) (maxL := 2) (ret := (some (.object "MakerStarts$Type"))) (by decide) rfl ?_
  intro p e s m args below meth c s₁ B hml hv
  obtain ⟨rfl, hsz, hP, hK, hD0⟩ := hv
  have hx := B.exec
  have hb := B.bytes
  have hr := B.returns
  have hts := atoms_spec (ws := .code yX7_typeAt cX7_typeAt 2 (some (.object "MakerStarts$Type")) :: TB) B.pre
  have hT : ∀ w ∈ TB, w.before _ s = true := fun w h => hts w (List.mem_cons_of_mem _ h)
  have hown : s.vm.findClass "MakerStarts$Text" = some m.cls := findClass_of_methodNamed B.named
  have hlocks := B.notSynchronized
  subst hsz
  have hD := hD0.self (sz := s.heap.size)
  generalize hAe : va_A [(h0, .inr (7, [.ref a1, .int 0, .ref a2, .ref a3, .int 0, .ref a4, .int 0, .int 0, .int 0]))] s.heap.size = A at hD  ⊢
  have hA : ∀ q : Nat, s.heap.size ≤ q → A q := fun q h => by rw [← hAe]; exact Or.inr h
  have hS : va_S A s.heap s.heap [] := va_S.rf
  have hP : va_P D vwCl [(h0, .inr (7, [.ref a1, .int 0, .ref a2, .ref a3, .int 0, .ref a4, .int 0, .int 0, .int 0]))] s.heap := hP
  have hl := lv_entry ([.ref h0, .int p0]) (n := 2) (Nat.le_of_ble_eq_true rfl)
  rw [lg_entry_eq]
  generalize (lg_sl ([.ref h0, .int p0]) ++ List.replicate (2 - (lg_sl ([.ref h0, .int p0])).length) Slot.unset).toArray = ls at hl ⊢
  have hl : lv_has ls 2 [(0, .ref h0), (1, .int p0)] := hl
  refine lv_iload_n hx hb dX7_typeAt_0 rfl (lv_at hl 1 rfl) ?_
  refine lv_if_lt (tgt := 27) hx hb dX7_typeAt_1 (by decide) (fun c1 => ?_) (fun c1 => ?_)
  · refine lv_null hx hb dX7_typeAt_27 ?_
    have hP9 := hP.sub (ws' := [(h0, .inr (7, [.ref a1, .int 0, .ref a2, .ref a3, .int 0, .ref a4, .int 0, .int 0, .int 0]))]) [0] rfl
    have hD9 := hD.sub (ws' := [(h0, .inr (7, [.ref a1, .int 0, .ref a2, .ref a3, .int 0, .ref a4, .int 0, .int 0, .int 0]))]) [0] (by decide) rfl
    refine W.widen (k := 0) (n := 0) (Nat.le_of_ble_eq_true rfl) (Nat.le_of_ble_eq_true rfl) ?_
    exact W.aret (v := .null) hx hb hr (Or.inl ⟨_, rfl⟩) (Or.inl rfl) (fun t ht hW => ⟨⟨none, (), rfl, rfl, by rw [ht]; exact hP9, hD9⟩, hS.F ht⟩) hS.2.2 dX7_typeAt_28
  · refine lv_iload_n hx hb dX7_typeAt_4 rfl (lv_at hl 1 rfl) ?_
    refine lv_aload_n hx hb dX7_typeAt_5 rfl (lv_at hl 0 rfl) ?_
    refine va_get (D := D) (ci := 7) (v := .int 0) (C := RX7) (T := TX7) (N := 9) hx hb hT i_TX7 hown hK hP 0 rfl rfl 1 (by decide) (hT _ t_214) (fun _ h9 => h9) rfl dX7_typeAt_6 ?_
    refine lv_icmp_ge (tgt := 27) hx hb dX7_typeAt_9 (by decide) (fun _ => ?_) (fun c9 => absurd (Int32.not_lt.mp c1) c9)
    refine lv_null hx hb dX7_typeAt_27 ?_
    have hP9 := hP.sub (ws' := [(h0, .inr (7, [.ref a1, .int 0, .ref a2, .ref a3, .int 0, .ref a4, .int 0, .int 0, .int 0]))]) [0] rfl
    have hD9 := hD.sub (ws' := [(h0, .inr (7, [.ref a1, .int 0, .ref a2, .ref a3, .int 0, .ref a4, .int 0, .int 0, .int 0]))]) [0] (by decide) rfl
    refine W.widen (k := 0) (n := 0) (Nat.le_of_ble_eq_true rfl) (Nat.le_of_ble_eq_true rfl) ?_
    exact W.aret (v := .null) hx hb hr (Or.inl ⟨_, rfl⟩) (Or.inl rfl) (fun t ht hW => ⟨⟨none, (), rfl, rfl, by rw [ht]; exact hP9, hD9⟩, hS.F ht⟩) hS.2.2 dX7_typeAt_28

set_option maxHeartbeats 4000000 in
set_option maxRecDepth 100000 in
theorem c_typeAt1 (l : Launch) (D : va_G) (cy : Nat → ClassId) (sz : Nat) (h0 : Nat) (a1 : Nat) (a2 : Nat) (a3 : Nat) (a4 : Nat) (p0 : Int32) : Met l yX7_typeAt (.code yX7_typeAt cX7_typeAt 2 (some (.object "MakerStarts$Type")) :: TB) ({ frames := 0, cells := 0, slots := 0, locals := 0 }) (va_Pc [.ref h0, .int p0] (fun U => U.heap.size = sz ∧ va_P D vwCl [(h0, .inr (7, [.ref a1, .int 0, .ref a2, .ref a3, .int 0, .ref a4, .int 0, .int 0, .int (-1)]))] U.heap ∧ va_K D vwCl (TY cy) U ∧ va_D (fun _ => True) [(h0, .inr (7, [.ref a1, .int 0, .ref a2, .ref a3, .int 0, .ref a4, .int 0, .int 0, .int (-1)]))])) (va_Qq (fun (r : Option Nat) (u : Unit) => r = none) (fun (u : Unit) t => va_P D vwCl [(h0, .inr (7, [.ref a1, .int 0, .ref a2, .ref a3, .int 0, .ref a4, .int 0, .int 0, .int (-1)]))] t.heap ∧ va_D (va_A [(h0, .inr (7, [.ref a1, .int 0, .ref a2, .ref a3, .int 0, .ref a4, .int 0, .int 0, .int (-1)]))] sz) [(h0, .inr (7, [.ref a1, .int 0, .ref a2, .ref a3, .int 0, .ref a4, .int 0, .int 0, .int (-1)]))]) (va_A [(h0, .inr (7, [.ref a1, .int 0, .ref a2, .ref a3, .int 0, .ref a4, .int 0, .int 0, .int (-1)]))] sz)) 0 0 (va_A [(h0, .inr (7, [.ref a1, .int 0, .ref a2, .ref a3, .int 0, .ref a4, .int 0, .int 0, .int (-1)]))] sz) := by
  refine Met.ofW (cc := cX7_typeAt) (maxL := 2) (ret := (some (.object "MakerStarts$Type"))) (by decide) rfl ?_
  intro p e s m args below meth c s₁ B hml hv
  obtain ⟨rfl, hsz, hP, hK, hD0⟩ := hv
  have hx := B.exec
  have hb := B.bytes
  have hr := B.returns
  have hts := atoms_spec (ws := .code yX7_typeAt cX7_typeAt 2 (some (.object "MakerStarts$Type")) :: TB) B.pre
  have hT : ∀ w ∈ TB, w.before _ s = true := fun w h => hts w (List.mem_cons_of_mem _ h)
  have hown : s.vm.findClass "MakerStarts$Text" = some m.cls := findClass_of_methodNamed B.named
  have hlocks := B.notSynchronized
  subst hsz
  have hD := hD0.self (sz := s.heap.size)
  generalize hAe : va_A [(h0, .inr (7, [.ref a1, .int 0, .ref a2, .ref a3, .int 0, .ref a4, .int 0, .int 0, .int (-1)]))] s.heap.size = A at hD  ⊢
  have hA : ∀ q : Nat, s.heap.size ≤ q → A q := fun q h => by rw [← hAe]; exact Or.inr h
  have hS : va_S A s.heap s.heap [] := va_S.rf
  have hP : va_P D vwCl [(h0, .inr (7, [.ref a1, .int 0, .ref a2, .ref a3, .int 0, .ref a4, .int 0, .int 0, .int (-1)]))] s.heap := hP
  have hl := lv_entry ([.ref h0, .int p0]) (n := 2) (Nat.le_of_ble_eq_true rfl)
  rw [lg_entry_eq]
  generalize (lg_sl ([.ref h0, .int p0]) ++ List.replicate (2 - (lg_sl ([.ref h0, .int p0])).length) Slot.unset).toArray = ls at hl ⊢
  have hl : lv_has ls 2 [(0, .ref h0), (1, .int p0)] := hl
  refine lv_iload_n hx hb dX7_typeAt_0 rfl (lv_at hl 1 rfl) ?_
  refine lv_if_lt (tgt := 27) hx hb dX7_typeAt_1 (by decide) (fun c1 => ?_) (fun c1 => ?_)
  · refine lv_null hx hb dX7_typeAt_27 ?_
    have hP9 := hP.sub (ws' := [(h0, .inr (7, [.ref a1, .int 0, .ref a2, .ref a3, .int 0, .ref a4, .int 0, .int 0, .int (-1)]))]) [0] rfl
    have hD9 := hD.sub (ws' := [(h0, .inr (7, [.ref a1, .int 0, .ref a2, .ref a3, .int 0, .ref a4, .int 0, .int 0, .int (-1)]))]) [0] (by decide) rfl
    refine W.widen (k := 0) (n := 0) (Nat.le_of_ble_eq_true rfl) (Nat.le_of_ble_eq_true rfl) ?_
    exact W.aret (v := .null) hx hb hr (Or.inl ⟨_, rfl⟩) (Or.inl rfl) (fun t ht hW => ⟨⟨none, (), rfl, rfl, by rw [ht]; exact hP9, hD9⟩, hS.F ht⟩) hS.2.2 dX7_typeAt_28
  · refine lv_iload_n hx hb dX7_typeAt_4 rfl (lv_at hl 1 rfl) ?_
    refine lv_aload_n hx hb dX7_typeAt_5 rfl (lv_at hl 0 rfl) ?_
    refine va_get (D := D) (ci := 7) (v := .int 0) (C := RX7) (T := TX7) (N := 9) hx hb hT i_TX7 hown hK hP 0 rfl rfl 1 (by decide) (hT _ t_214) (fun _ h9 => h9) rfl dX7_typeAt_6 ?_
    refine lv_icmp_ge (tgt := 27) hx hb dX7_typeAt_9 (by decide) (fun _ => ?_) (fun c9 => absurd (Int32.not_lt.mp c1) c9)
    refine lv_null hx hb dX7_typeAt_27 ?_
    have hP9 := hP.sub (ws' := [(h0, .inr (7, [.ref a1, .int 0, .ref a2, .ref a3, .int 0, .ref a4, .int 0, .int 0, .int (-1)]))]) [0] rfl
    have hD9 := hD.sub (ws' := [(h0, .inr (7, [.ref a1, .int 0, .ref a2, .ref a3, .int 0, .ref a4, .int 0, .int 0, .int (-1)]))]) [0] (by decide) rfl
    refine W.widen (k := 0) (n := 0) (Nat.le_of_ble_eq_true rfl) (Nat.le_of_ble_eq_true rfl) ?_
    exact W.aret (v := .null) hx hb hr (Or.inl ⟨_, rfl⟩) (Or.inl rfl) (fun t ht hW => ⟨⟨none, (), rfl, rfl, by rw [ht]; exact hP9, hD9⟩, hS.F ht⟩) hS.2.2 dX7_typeAt_28

def tld (x : Int32) : Int32 := if x < 0 then -2 else if nI 5 ≤ x then -2 else 0

theorem tld_n {x : Int32} (h : x < 0) : tld x = -2 := by unfold tld; rw [if_pos h]
theorem tld_b {x : Int32} (h : nI 5 ≤ x) : tld x = -2 := by unfold tld; split <;> first | rfl | (rw [if_pos h])
theorem tld_ne {x : Int32} (h : x < 0 ∨ nI 5 ≤ x) (k : Nat) (hk : k < 5) : ¬ x = nI k := by
  rintro rfl
  rcases h with h | h
  · exact nI_pos (by omega) h
  · exact nI_ge hk (by decide) h
theorem tb_neg {x : Int32} (h : x < 0) : x.toInt < 0 := by have := Int32.lt_iff_toInt_lt.mp h; simpa using this
theorem tb_big {x : Int32} {n : Nat} (hn : n < 2 ^ 31) (h : nI n ≤ x) : (n : Int) - 1 < x.toInt := by
  have := Int32.le_iff_toInt_le.mp h
  rw [nI_toInt hn] at this
  omega

set_option maxHeartbeats 4000000 in
set_option maxRecDepth 100000 in
theorem c_told (l : Launch) (D : va_G) (cy : Nat → ClassId) (sz : Nat) (hx0 : Nat) (xa : Nat → Nat) (p0 : Int32) : Met l yX11_told (.code yX11_told cX11_told 2 (some .int) :: TB) ({ frames := 0, cells := 0, slots := 0, locals := 0 }) (va_Pc [.ref hx0, .int p0] (fun U => U.heap.size = sz ∧ va_P D vwCl [(hx0, .inr (11, [.ref (xa 0), .int 0, .int (-1), .ref (xa 1), .ref (xa 2), .ref (xa 3), .ref (xa 4), .ref (xa 5)])), ((xa 1), .inr (7, [.ref (xa 6), .int 0, .ref (xa 7), .ref (xa 8), .int 0, .ref (xa 9), .int 0, .int 0, .int 0])), ((xa 5), .inr (4, [.ref (xa 1), .ref (xa 22), .ref (xa 23), .ref (xa 24), .int 0, .int 0, .int 0, .ref (xa 25), .int 0, .ref (xa 26), .int 0, .int 0, .int 0, .ref (xa 27), .ref (xa 27), .int 0, .int 0, .int 0, .int 1, .int 0]))] U.heap ∧ va_K D vwCl (TY cy) U ∧ va_D (fun _ => True) [(hx0, .inr (11, [.ref (xa 0), .int 0, .int (-1), .ref (xa 1), .ref (xa 2), .ref (xa 3), .ref (xa 4), .ref (xa 5)])), ((xa 1), .inr (7, [.ref (xa 6), .int 0, .ref (xa 7), .ref (xa 8), .int 0, .ref (xa 9), .int 0, .int 0, .int 0])), ((xa 5), .inr (4, [.ref (xa 1), .ref (xa 22), .ref (xa 23), .ref (xa 24), .int 0, .int 0, .int 0, .ref (xa 25), .int 0, .ref (xa 26), .int 0, .int 0, .int 0, .ref (xa 27), .ref (xa 27), .int 0, .int 0, .int 0, .int 1, .int 0]))])) (va_Qi (fun (r : Int32) (u : Unit) => r = tld p0) (fun (u : Unit) t => va_P D vwCl [] t.heap ∧ va_D (va_A [(hx0, .inr (11, [.ref (xa 0), .int 0, .int (-1), .ref (xa 1), .ref (xa 2), .ref (xa 3), .ref (xa 4), .ref (xa 5)])), ((xa 1), .inr (7, [.ref (xa 6), .int 0, .ref (xa 7), .ref (xa 8), .int 0, .ref (xa 9), .int 0, .int 0, .int 0])), ((xa 5), .inr (4, [.ref (xa 1), .ref (xa 22), .ref (xa 23), .ref (xa 24), .int 0, .int 0, .int 0, .ref (xa 25), .int 0, .ref (xa 26), .int 0, .int 0, .int 0, .ref (xa 27), .ref (xa 27), .int 0, .int 0, .int 0, .int 1, .int 0]))] sz) []) (va_A [(hx0, .inr (11, [.ref (xa 0), .int 0, .int (-1), .ref (xa 1), .ref (xa 2), .ref (xa 3), .ref (xa 4), .ref (xa 5)])), ((xa 1), .inr (7, [.ref (xa 6), .int 0, .ref (xa 7), .ref (xa 8), .int 0, .ref (xa 9), .int 0, .int 0, .int 0])), ((xa 5), .inr (4, [.ref (xa 1), .ref (xa 22), .ref (xa 23), .ref (xa 24), .int 0, .int 0, .int 0, .ref (xa 25), .int 0, .ref (xa 26), .int 0, .int 0, .int 0, .ref (xa 27), .ref (xa 27), .int 0, .int 0, .int 0, .int 1, .int 0]))] sz)) 0 0 (va_A [(hx0, .inr (11, [.ref (xa 0), .int 0, .int (-1), .ref (xa 1), .ref (xa 2), .ref (xa 3), .ref (xa 4), .ref (xa 5)])), ((xa 1), .inr (7, [.ref (xa 6), .int 0, .ref (xa 7), .ref (xa 8), .int 0, .ref (xa 9), .int 0, .int 0, .int 0])), ((xa 5), .inr (4, [.ref (xa 1), .ref (xa 22), .ref (xa 23), .ref (xa 24), .int 0, .int 0, .int 0, .ref (xa 25), .int 0, .ref (xa 26), .int 0, .int 0, .int 0, .ref (xa 27), .ref (xa 27), .int 0, .int 0, .int 0, .int 1, .int 0]))] sz) := by
  refine Met.ofW (cc := cX11_told) (maxL := 2) (ret := (some .int)) (by decide) rfl ?_
  intro p e s m args below meth c s₁ B hml hv
  obtain ⟨rfl, hsz, hP, hK, hD0⟩ := hv
  have hx := B.exec
  have hb := B.bytes
  have hr := B.returns
  have hts := atoms_spec (ws := .code yX11_told cX11_told 2 (some .int) :: TB) B.pre
  have hT : ∀ w ∈ TB, w.before _ s = true := fun w h => hts w (List.mem_cons_of_mem _ h)
  have hown : s.vm.findClass "MakerStarts" = some m.cls := findClass_of_methodNamed B.named
  have hlocks := B.notSynchronized
  subst hsz
  have hD := hD0.self (sz := s.heap.size)
  generalize hAe : va_A [(hx0, .inr (11, [.ref (xa 0), .int 0, .int (-1), .ref (xa 1), .ref (xa 2), .ref (xa 3), .ref (xa 4), .ref (xa 5)])), ((xa 1), .inr (7, [.ref (xa 6), .int 0, .ref (xa 7), .ref (xa 8), .int 0, .ref (xa 9), .int 0, .int 0, .int 0])), ((xa 5), .inr (4, [.ref (xa 1), .ref (xa 22), .ref (xa 23), .ref (xa 24), .int 0, .int 0, .int 0, .ref (xa 25), .int 0, .ref (xa 26), .int 0, .int 0, .int 0, .ref (xa 27), .ref (xa 27), .int 0, .int 0, .int 0, .int 1, .int 0]))] s.heap.size = A at hD  ⊢
  have hA : ∀ q : Nat, s.heap.size ≤ q → A q := fun q h => by rw [← hAe]; exact Or.inr h
  have hS : va_S A s.heap s.heap [] := va_S.rf
  have hP : va_P D vwCl [(hx0, .inr (11, [.ref (xa 0), .int 0, .int (-1), .ref (xa 1), .ref (xa 2), .ref (xa 3), .ref (xa 4), .ref (xa 5)])), ((xa 1), .inr (7, [.ref (xa 6), .int 0, .ref (xa 7), .ref (xa 8), .int 0, .ref (xa 9), .int 0, .int 0, .int 0])), ((xa 5), .inr (4, [.ref (xa 1), .ref (xa 22), .ref (xa 23), .ref (xa 24), .int 0, .int 0, .int 0, .ref (xa 25), .int 0, .ref (xa 26), .int 0, .int 0, .int 0, .ref (xa 27), .ref (xa 27), .int 0, .int 0, .int 0, .int 1, .int 0]))] s.heap := hP
  have hl := lv_entry ([.ref hx0, .int p0]) (n := 2) (Nat.le_of_ble_eq_true rfl)
  rw [lg_entry_eq]
  generalize (lg_sl ([.ref hx0, .int p0]) ++ List.replicate (2 - (lg_sl ([.ref hx0, .int p0])).length) Slot.unset).toArray = ls at hl ⊢
  have hl : lv_has ls 2 [(0, .ref hx0), (1, .int p0)] := hl
  refine lv_iload_n hx hb dX11_told_0 rfl (lv_at hl 1 rfl) ?_
  rcases pk_ix p0 (n := 5) (by decide) with h5 | h5 | ⟨j5, hj5, rfl⟩
  · refine lv_tableOut (tgt := 73) hx hb dX11_told_1 (Or.inl (tb_neg h5)) (by decide) ?_
    refine lv_bipush (v := (-2)) hx hb dX11_told_73 (by decide) ?_
    have hP9 := hP.sub (ws' := []) [] rfl
    have hD9 := hD.sub (ws' := []) [] (by decide) rfl
    refine W.widen (k := 0) (n := 0) (Nat.le_of_ble_eq_true rfl) (Nat.le_of_ble_eq_true rfl) ?_
    exact W.iret (v := (-2)) hx hb hr (fun t ht hW => ⟨⟨(-2), (), rfl, (tld_n h5).symm, by rw [ht]; exact hP9, hD9⟩, hS.F ht⟩) hS.2.2 dX11_told_75
  · refine lv_tableOut (tgt := 73) hx hb dX11_told_1 (Or.inr (tb_big (n := 5) (by decide) h5)) (by decide) ?_
    refine lv_bipush (v := (-2)) hx hb dX11_told_73 (by decide) ?_
    have hP9 := hP.sub (ws' := []) [] rfl
    have hD9 := hD.sub (ws' := []) [] (by decide) rfl
    refine W.widen (k := 0) (n := 0) (Nat.le_of_ble_eq_true rfl) (Nat.le_of_ble_eq_true rfl) ?_
    exact W.iret (v := (-2)) hx hb hr (fun t ht hW => ⟨⟨(-2), (), rfl, (tld_b h5).symm, by rw [ht]; exact hP9, hD9⟩, hS.F ht⟩) hS.2.2 dX11_told_75
  · rcases (show j5 = 0 ∨ j5 = 1 ∨ j5 = 2 ∨ j5 = 3 ∨ j5 = 4 by omega) with rfl | rfl | rfl | rfl | rfl
    · refine lv_tableIn (off := 35) (tgt := 36) hx hb dX11_told_1 (by decide) (by decide) (by decide) (by decide) ?_
      refine lv_aload_n hx hb dX11_told_36 rfl (lv_at hl 0 rfl) ?_
      refine va_get (D := D) (ci := 11) (v := .ref (xa 1)) (C := RX11) (T := TX11) (N := 8) hx hb hT i_TX11 hown hK hP 0 rfl rfl 3 (by decide) (hT _ t_536) (fun _ h9 => h9) rfl dX11_told_37 ?_
      refine va_get (D := D) (ci := 7) (v := .int 0) (C := RX7) (T := TX7) (N := 9) hx hb hT i_TX7 hown hK hP 1 rfl rfl 1 (by decide) (hT _ t_217) (fun _ h9 => h9) rfl dX11_told_40 ?_
      have hP9 := hP.sub (ws' := []) [] rfl
      have hD9 := hD.sub (ws' := []) [] (by decide) rfl
      refine W.widen (k := 0) (n := 0) (Nat.le_of_ble_eq_true rfl) (Nat.le_of_ble_eq_true rfl) ?_
      exact W.iret (v := 0) hx hb hr (fun t ht hW => ⟨⟨0, (), rfl, (by decide), by rw [ht]; exact hP9, hD9⟩, hS.F ht⟩) hS.2.2 dX11_told_43
    · refine lv_tableIn (off := 43) (tgt := 44) hx hb dX11_told_1 (by decide) (by decide) (by decide) (by decide) ?_
      refine lv_aload_n hx hb dX11_told_44 rfl (lv_at hl 0 rfl) ?_
      refine va_get (D := D) (ci := 11) (v := .ref (xa 5)) (C := RX11) (T := TX11) (N := 8) hx hb hT i_TX11 hown hK hP 0 rfl rfl 7 (by decide) (hT _ t_540) (fun _ h9 => h9) rfl dX11_told_45 ?_
      refine va_get (D := D) (ci := 4) (v := .int 0) (C := RX4) (T := TX4) (N := 20) hx hb hT i_TX4 hown hK hP 2 rfl rfl 4 (by decide) (hT _ t_474) (fun _ h9 => h9) rfl dX11_told_48 ?_
      have hP9 := hP.sub (ws' := []) [] rfl
      have hD9 := hD.sub (ws' := []) [] (by decide) rfl
      refine W.widen (k := 0) (n := 0) (Nat.le_of_ble_eq_true rfl) (Nat.le_of_ble_eq_true rfl) ?_
      exact W.iret (v := 0) hx hb hr (fun t ht hW => ⟨⟨0, (), rfl, (by decide), by rw [ht]; exact hP9, hD9⟩, hS.F ht⟩) hS.2.2 dX11_told_51
    · refine lv_tableIn (off := 51) (tgt := 52) hx hb dX11_told_1 (by decide) (by decide) (by decide) (by decide) ?_
      refine lv_aload_n hx hb dX11_told_52 rfl (lv_at hl 0 rfl) ?_
      refine va_get (D := D) (ci := 11) (v := .int 0) (C := RX11) (T := TX11) (N := 8) hx hb hT i_TX11 hown hK hP 0 rfl rfl 1 (by decide) (hT _ t_534) (fun _ h9 => h9) rfl dX11_told_53 ?_
      have hP9 := hP.sub (ws' := []) [] rfl
      have hD9 := hD.sub (ws' := []) [] (by decide) rfl
      refine W.widen (k := 0) (n := 0) (Nat.le_of_ble_eq_true rfl) (Nat.le_of_ble_eq_true rfl) ?_
      exact W.iret (v := 0) hx hb hr (fun t ht hW => ⟨⟨0, (), rfl, (by decide), by rw [ht]; exact hP9, hD9⟩, hS.F ht⟩) hS.2.2 dX11_told_56
    · refine lv_tableIn (off := 56) (tgt := 57) hx hb dX11_told_1 (by decide) (by decide) (by decide) (by decide) ?_
      refine lv_aload_n hx hb dX11_told_57 rfl (lv_at hl 0 rfl) ?_
      refine va_get (D := D) (ci := 11) (v := .ref (xa 5)) (C := RX11) (T := TX11) (N := 8) hx hb hT i_TX11 hown hK hP 0 rfl rfl 7 (by decide) (hT _ t_540) (fun _ h9 => h9) rfl dX11_told_58 ?_
      refine va_get (D := D) (ci := 4) (v := .int 0) (C := RX4) (T := TX4) (N := 20) hx hb hT i_TX4 hown hK hP 2 rfl rfl 5 (by decide) (hT _ t_476) (fun _ h9 => h9) rfl dX11_told_61 ?_
      have hP9 := hP.sub (ws' := []) [] rfl
      have hD9 := hD.sub (ws' := []) [] (by decide) rfl
      refine W.widen (k := 0) (n := 0) (Nat.le_of_ble_eq_true rfl) (Nat.le_of_ble_eq_true rfl) ?_
      exact W.iret (v := 0) hx hb hr (fun t ht hW => ⟨⟨0, (), rfl, (by decide), by rw [ht]; exact hP9, hD9⟩, hS.F ht⟩) hS.2.2 dX11_told_64
    · refine lv_tableIn (off := 64) (tgt := 65) hx hb dX11_told_1 (by decide) (by decide) (by decide) (by decide) ?_
      refine lv_aload_n hx hb dX11_told_65 rfl (lv_at hl 0 rfl) ?_
      refine va_get (D := D) (ci := 11) (v := .ref (xa 5)) (C := RX11) (T := TX11) (N := 8) hx hb hT i_TX11 hown hK hP 0 rfl rfl 7 (by decide) (hT _ t_540) (fun _ h9 => h9) rfl dX11_told_66 ?_
      refine va_get (D := D) (ci := 4) (v := .int 0) (C := RX4) (T := TX4) (N := 20) hx hb hT i_TX4 hown hK hP 2 rfl rfl 6 (by decide) (hT _ t_478) (fun _ h9 => h9) rfl dX11_told_69 ?_
      have hP9 := hP.sub (ws' := []) [] rfl
      have hD9 := hD.sub (ws' := []) [] (by decide) rfl
      refine W.widen (k := 0) (n := 0) (Nat.le_of_ble_eq_true rfl) (Nat.le_of_ble_eq_true rfl) ?_
      exact W.iret (v := 0) hx hb hr (fun t ht hW => ⟨⟨0, (), rfl, (by decide), by rw [ht]; exact hP9, hD9⟩, hS.F ht⟩) hS.2.2 dX11_told_72

set_option maxHeartbeats 4000000 in
set_option maxRecDepth 100000 in
theorem m_told (l : Launch) (D : va_G) (cy : Nat → ClassId) (sz : Nat) (hm : Nat) (ma : Nat → Nat) (p0 : Int32) : Met l yX12_told (.code yX12_told cX12_told 2 (some .int) :: TB) ({ frames := 0, cells := 0, slots := 0, locals := 0 }) (va_Pc [.ref hm, .int p0] (fun U => U.heap.size = sz ∧ va_P D vwCl [(hm, .inr (12, [.int 0, .ref (ma 1), .int 0, .int (-1), .ref (ma 4), .int 0, .int 0, .int 0, .long 0, .int 0, .int 0, .int 0, .int 0, .long 0, .int 0, .int 0, .int 0, .ref (ma 17), .ref (ma 18), .ref (ma 19), .ref (ma 20), .ref (ma 21), .ref (ma 22), .ref (ma 23), .ref (ma 24), .ref (ma 25), .ref (ma 26), .ref (ma 27), .ref (ma 28), .ref (ma 29), .ref (ma 30), .ref (ma 31), .ref (ma 32), .ref (ma 33), .ref (ma 34), .ref (ma 35), .ref (ma 36), .ref (ma 37), .ref (ma 38), .ref (ma 39), .ref (ma 40), .ref (ma 41), .ref (ma 42), .ref (ma 43), .ref (ma 44), .ref (ma 45), .ref (ma 46), .ref (ma 47), .ref (ma 48), .int 0, .int 0, .int 0, .int 0, .int 0, .int 0, .int 0, .int 0, .int 0, .int 0, .ref (ma 59), .ref (ma 60), .int 0, .int 0, .int 0, .int 0, .int 0, .int 0, .ref (ma 67), .ref (ma 68), .ref (ma 69), .int 0, .int (-1), .int 0, .ref (ma 73)])), ((ma 17), .inl (cy 1, 2, .inl (fun _ => 0)))] U.heap ∧ va_K D vwCl (TY cy) U ∧ va_D (fun _ => True) [(hm, .inr (12, [.int 0, .ref (ma 1), .int 0, .int (-1), .ref (ma 4), .int 0, .int 0, .int 0, .long 0, .int 0, .int 0, .int 0, .int 0, .long 0, .int 0, .int 0, .int 0, .ref (ma 17), .ref (ma 18), .ref (ma 19), .ref (ma 20), .ref (ma 21), .ref (ma 22), .ref (ma 23), .ref (ma 24), .ref (ma 25), .ref (ma 26), .ref (ma 27), .ref (ma 28), .ref (ma 29), .ref (ma 30), .ref (ma 31), .ref (ma 32), .ref (ma 33), .ref (ma 34), .ref (ma 35), .ref (ma 36), .ref (ma 37), .ref (ma 38), .ref (ma 39), .ref (ma 40), .ref (ma 41), .ref (ma 42), .ref (ma 43), .ref (ma 44), .ref (ma 45), .ref (ma 46), .ref (ma 47), .ref (ma 48), .int 0, .int 0, .int 0, .int 0, .int 0, .int 0, .int 0, .int 0, .int 0, .int 0, .ref (ma 59), .ref (ma 60), .int 0, .int 0, .int 0, .int 0, .int 0, .int 0, .ref (ma 67), .ref (ma 68), .ref (ma 69), .int 0, .int (-1), .int 0, .ref (ma 73)])), ((ma 17), .inl (cy 1, 2, .inl (fun _ => 0)))])) (va_Qi (fun (r : Int32) (u : Unit) => r = tld p0) (fun (u : Unit) t => va_P D vwCl [] t.heap ∧ va_D (va_A [(hm, .inr (12, [.int 0, .ref (ma 1), .int 0, .int (-1), .ref (ma 4), .int 0, .int 0, .int 0, .long 0, .int 0, .int 0, .int 0, .int 0, .long 0, .int 0, .int 0, .int 0, .ref (ma 17), .ref (ma 18), .ref (ma 19), .ref (ma 20), .ref (ma 21), .ref (ma 22), .ref (ma 23), .ref (ma 24), .ref (ma 25), .ref (ma 26), .ref (ma 27), .ref (ma 28), .ref (ma 29), .ref (ma 30), .ref (ma 31), .ref (ma 32), .ref (ma 33), .ref (ma 34), .ref (ma 35), .ref (ma 36), .ref (ma 37), .ref (ma 38), .ref (ma 39), .ref (ma 40), .ref (ma 41), .ref (ma 42), .ref (ma 43), .ref (ma 44), .ref (ma 45), .ref (ma 46), .ref (ma 47), .ref (ma 48), .int 0, .int 0, .int 0, .int 0, .int 0, .int 0, .int 0, .int 0, .int 0, .int 0, .ref (ma 59), .ref (ma 60), .int 0, .int 0, .int 0, .int 0, .int 0, .int 0, .ref (ma 67), .ref (ma 68), .ref (ma 69), .int 0, .int (-1), .int 0, .ref (ma 73)])), ((ma 17), .inl (cy 1, 2, .inl (fun _ => 0)))] sz) []) (va_A [(hm, .inr (12, [.int 0, .ref (ma 1), .int 0, .int (-1), .ref (ma 4), .int 0, .int 0, .int 0, .long 0, .int 0, .int 0, .int 0, .int 0, .long 0, .int 0, .int 0, .int 0, .ref (ma 17), .ref (ma 18), .ref (ma 19), .ref (ma 20), .ref (ma 21), .ref (ma 22), .ref (ma 23), .ref (ma 24), .ref (ma 25), .ref (ma 26), .ref (ma 27), .ref (ma 28), .ref (ma 29), .ref (ma 30), .ref (ma 31), .ref (ma 32), .ref (ma 33), .ref (ma 34), .ref (ma 35), .ref (ma 36), .ref (ma 37), .ref (ma 38), .ref (ma 39), .ref (ma 40), .ref (ma 41), .ref (ma 42), .ref (ma 43), .ref (ma 44), .ref (ma 45), .ref (ma 46), .ref (ma 47), .ref (ma 48), .int 0, .int 0, .int 0, .int 0, .int 0, .int 0, .int 0, .int 0, .int 0, .int 0, .ref (ma 59), .ref (ma 60), .int 0, .int 0, .int 0, .int 0, .int 0, .int 0, .ref (ma 67), .ref (ma 68), .ref (ma 69), .int 0, .int (-1), .int 0, .ref (ma 73)])), ((ma 17), .inl (cy 1, 2, .inl (fun _ => 0)))] sz)) 0 0 (va_A [(hm, .inr (12, [.int 0, .ref (ma 1), .int 0, .int (-1), .ref (ma 4), .int 0, .int 0, .int 0, .long 0, .int 0, .int 0, .int 0, .int 0, .long 0, .int 0, .int 0, .int 0, .ref (ma 17), .ref (ma 18), .ref (ma 19), .ref (ma 20), .ref (ma 21), .ref (ma 22), .ref (ma 23), .ref (ma 24), .ref (ma 25), .ref (ma 26), .ref (ma 27), .ref (ma 28), .ref (ma 29), .ref (ma 30), .ref (ma 31), .ref (ma 32), .ref (ma 33), .ref (ma 34), .ref (ma 35), .ref (ma 36), .ref (ma 37), .ref (ma 38), .ref (ma 39), .ref (ma 40), .ref (ma 41), .ref (ma 42), .ref (ma 43), .ref (ma 44), .ref (ma 45), .ref (ma 46), .ref (ma 47), .ref (ma 48), .int 0, .int 0, .int 0, .int 0, .int 0, .int 0, .int 0, .int 0, .int 0, .int 0, .ref (ma 59), .ref (ma 60), .int 0, .int 0, .int 0, .int 0, .int 0, .int 0, .ref (ma 67), .ref (ma 68), .ref (ma 69), .int 0, .int (-1), .int 0, .ref (ma 73)])), ((ma 17), .inl (cy 1, 2, .inl (fun _ => 0)))] sz) := by
  refine Met.ofW (cc := cX12_told) (maxL := 2) (ret := (some .int)) (by decide) rfl ?_
  intro p e s m args below meth c s₁ B hml hv
  obtain ⟨rfl, hsz, hP, hK, hD0⟩ := hv
  have hx := B.exec
  have hb := B.bytes
  have hr := B.returns
  have hts := atoms_spec (ws := .code yX12_told cX12_told 2 (some .int) :: TB) B.pre
  have hT : ∀ w ∈ TB, w.before _ s = true := fun w h => hts w (List.mem_cons_of_mem _ h)
  have hown : s.vm.findClass "MakerStartsModel" = some m.cls := findClass_of_methodNamed B.named
  have hlocks := B.notSynchronized
  subst hsz
  have hD := hD0.self (sz := s.heap.size)
  generalize hAe : va_A [(hm, .inr (12, [.int 0, .ref (ma 1), .int 0, .int (-1), .ref (ma 4), .int 0, .int 0, .int 0, .long 0, .int 0, .int 0, .int 0, .int 0, .long 0, .int 0, .int 0, .int 0, .ref (ma 17), .ref (ma 18), .ref (ma 19), .ref (ma 20), .ref (ma 21), .ref (ma 22), .ref (ma 23), .ref (ma 24), .ref (ma 25), .ref (ma 26), .ref (ma 27), .ref (ma 28), .ref (ma 29), .ref (ma 30), .ref (ma 31), .ref (ma 32), .ref (ma 33), .ref (ma 34), .ref (ma 35), .ref (ma 36), .ref (ma 37), .ref (ma 38), .ref (ma 39), .ref (ma 40), .ref (ma 41), .ref (ma 42), .ref (ma 43), .ref (ma 44), .ref (ma 45), .ref (ma 46), .ref (ma 47), .ref (ma 48), .int 0, .int 0, .int 0, .int 0, .int 0, .int 0, .int 0, .int 0, .int 0, .int 0, .ref (ma 59), .ref (ma 60), .int 0, .int 0, .int 0, .int 0, .int 0, .int 0, .ref (ma 67), .ref (ma 68), .ref (ma 69), .int 0, .int (-1), .int 0, .ref (ma 73)])), ((ma 17), .inl (cy 1, 2, .inl (fun _ => 0)))] s.heap.size = A at hD  ⊢
  have hA : ∀ q : Nat, s.heap.size ≤ q → A q := fun q h => by rw [← hAe]; exact Or.inr h
  have hS : va_S A s.heap s.heap [] := va_S.rf
  have hP : va_P D vwCl [(hm, .inr (12, [.int 0, .ref (ma 1), .int 0, .int (-1), .ref (ma 4), .int 0, .int 0, .int 0, .long 0, .int 0, .int 0, .int 0, .int 0, .long 0, .int 0, .int 0, .int 0, .ref (ma 17), .ref (ma 18), .ref (ma 19), .ref (ma 20), .ref (ma 21), .ref (ma 22), .ref (ma 23), .ref (ma 24), .ref (ma 25), .ref (ma 26), .ref (ma 27), .ref (ma 28), .ref (ma 29), .ref (ma 30), .ref (ma 31), .ref (ma 32), .ref (ma 33), .ref (ma 34), .ref (ma 35), .ref (ma 36), .ref (ma 37), .ref (ma 38), .ref (ma 39), .ref (ma 40), .ref (ma 41), .ref (ma 42), .ref (ma 43), .ref (ma 44), .ref (ma 45), .ref (ma 46), .ref (ma 47), .ref (ma 48), .int 0, .int 0, .int 0, .int 0, .int 0, .int 0, .int 0, .int 0, .int 0, .int 0, .ref (ma 59), .ref (ma 60), .int 0, .int 0, .int 0, .int 0, .int 0, .int 0, .ref (ma 67), .ref (ma 68), .ref (ma 69), .int 0, .int (-1), .int 0, .ref (ma 73)])), ((ma 17), .inl (cy 1, 2, .inl (fun _ => 0)))] s.heap := hP
  have hl := lv_entry ([.ref hm, .int p0]) (n := 2) (Nat.le_of_ble_eq_true rfl)
  rw [lg_entry_eq]
  generalize (lg_sl ([.ref hm, .int p0]) ++ List.replicate (2 - (lg_sl ([.ref hm, .int p0])).length) Slot.unset).toArray = ls at hl ⊢
  have hl : lv_has ls 2 [(0, .ref hm), (1, .int p0)] := hl
  rcases pk_ix p0 (n := 5) (by decide) with h5 | h5 | ⟨j5, hj5, rfl⟩
  · refine lv_aload_n hx hb dX12_told_0 rfl (lv_at hl 0 rfl) ?_
    refine lv_iconst (v := 0) hx hb dX12_told_1 (by decide) ?_
    refine va_put (D := D) (ci := 12) (v := .int 0) (ty := .int) (C := RX12) (T := TX12) (N := 74) hx hb hT i_TX12 tyX12 tyX12_ok nmX12 hown hK hP hD hS 0 rfl rfl 0 (by decide) (hT _ t_1715) (fun _ h9 => h9) rfl (by decide +kernel) rfl rfl (Nat.le_of_ble_eq_true rfl) dX12_told_2 (fun H locs hP hD hS => ?_)
    have hP : va_P D vwCl [(hm, .inr (12, [.int 0, .ref (ma 1), .int 0, .int (-1), .ref (ma 4), .int 0, .int 0, .int 0, .long 0, .int 0, .int 0, .int 0, .int 0, .long 0, .int 0, .int 0, .int 0, .ref (ma 17), .ref (ma 18), .ref (ma 19), .ref (ma 20), .ref (ma 21), .ref (ma 22), .ref (ma 23), .ref (ma 24), .ref (ma 25), .ref (ma 26), .ref (ma 27), .ref (ma 28), .ref (ma 29), .ref (ma 30), .ref (ma 31), .ref (ma 32), .ref (ma 33), .ref (ma 34), .ref (ma 35), .ref (ma 36), .ref (ma 37), .ref (ma 38), .ref (ma 39), .ref (ma 40), .ref (ma 41), .ref (ma 42), .ref (ma 43), .ref (ma 44), .ref (ma 45), .ref (ma 46), .ref (ma 47), .ref (ma 48), .int 0, .int 0, .int 0, .int 0, .int 0, .int 0, .int 0, .int 0, .int 0, .int 0, .ref (ma 59), .ref (ma 60), .int 0, .int 0, .int 0, .int 0, .int 0, .int 0, .ref (ma 67), .ref (ma 68), .ref (ma 69), .int 0, .int (-1), .int 0, .ref (ma 73)])), ((ma 17), .inl (cy 1, 2, .inl (fun _ => 0)))] H := hP
    have hD : va_D A [(hm, .inr (12, [.int 0, .ref (ma 1), .int 0, .int (-1), .ref (ma 4), .int 0, .int 0, .int 0, .long 0, .int 0, .int 0, .int 0, .int 0, .long 0, .int 0, .int 0, .int 0, .ref (ma 17), .ref (ma 18), .ref (ma 19), .ref (ma 20), .ref (ma 21), .ref (ma 22), .ref (ma 23), .ref (ma 24), .ref (ma 25), .ref (ma 26), .ref (ma 27), .ref (ma 28), .ref (ma 29), .ref (ma 30), .ref (ma 31), .ref (ma 32), .ref (ma 33), .ref (ma 34), .ref (ma 35), .ref (ma 36), .ref (ma 37), .ref (ma 38), .ref (ma 39), .ref (ma 40), .ref (ma 41), .ref (ma 42), .ref (ma 43), .ref (ma 44), .ref (ma 45), .ref (ma 46), .ref (ma 47), .ref (ma 48), .int 0, .int 0, .int 0, .int 0, .int 0, .int 0, .int 0, .int 0, .int 0, .int 0, .ref (ma 59), .ref (ma 60), .int 0, .int 0, .int 0, .int 0, .int 0, .int 0, .ref (ma 67), .ref (ma 68), .ref (ma 69), .int 0, .int (-1), .int 0, .ref (ma 73)])), ((ma 17), .inl (cy 1, 2, .inl (fun _ => 0)))] := hD
    refine lv_iload_n hx hb dX12_told_5 rfl (lv_at hl 1 rfl) ?_
    refine lv_if_ne (tgt := 21) hx hb dX12_told_6 (by decide) (fun _ => ?_) (fun c9 => absurd c9 (tld_ne (Or.inl h5) 0 (by decide)))
    refine lv_iload_n hx hb dX12_told_21 rfl (lv_at hl 1 rfl) ?_
    refine lv_iconst (v := 1) hx hb dX12_told_22 (by decide) ?_
    refine lv_icmp_ne (tgt := 33) hx hb dX12_told_23 (by decide) (fun _ => ?_) (fun c9 => absurd c9 (tld_ne (Or.inl h5) 1 (by decide)))
    refine lv_iload_n hx hb dX12_told_33 rfl (lv_at hl 1 rfl) ?_
    refine lv_iconst (v := 2) hx hb dX12_told_34 (by decide) ?_
    refine lv_icmp_ne (tgt := 45) hx hb dX12_told_35 (by decide) (fun _ => ?_) (fun c9 => absurd c9 (tld_ne (Or.inl h5) 2 (by decide)))
    refine lv_iload_n hx hb dX12_told_45 rfl (lv_at hl 1 rfl) ?_
    refine lv_iconst (v := 3) hx hb dX12_told_46 (by decide) ?_
    refine lv_icmp_ne (tgt := 57) hx hb dX12_told_47 (by decide) (fun _ => ?_) (fun c9 => absurd c9 (tld_ne (Or.inl h5) 3 (by decide)))
    refine lv_iload_n hx hb dX12_told_57 rfl (lv_at hl 1 rfl) ?_
    refine lv_iconst (v := 4) hx hb dX12_told_58 (by decide) ?_
    refine lv_icmp_ne (tgt := 69) hx hb dX12_told_59 (by decide) (fun _ => ?_) (fun c9 => absurd c9 (tld_ne (Or.inl h5) 4 (by decide)))
    refine lv_bipush (v := (-2)) hx hb dX12_told_69 (by decide) ?_
    have hP9 := hP.sub (ws' := []) [] rfl
    have hD9 := hD.sub (ws' := []) [] (by decide) rfl
    refine W.widen (k := 0) (n := 0) (Nat.le_of_ble_eq_true rfl) (Nat.le_of_ble_eq_true rfl) ?_
    exact W.iret (v := (-2)) hx hb hr (fun t ht hW => ⟨⟨(-2), (), rfl, (tld_n h5).symm, by rw [ht]; exact hP9, hD9⟩, hS.F ht⟩) hS.2.2 dX12_told_71
  · refine lv_aload_n hx hb dX12_told_0 rfl (lv_at hl 0 rfl) ?_
    refine lv_iconst (v := 0) hx hb dX12_told_1 (by decide) ?_
    refine va_put (D := D) (ci := 12) (v := .int 0) (ty := .int) (C := RX12) (T := TX12) (N := 74) hx hb hT i_TX12 tyX12 tyX12_ok nmX12 hown hK hP hD hS 0 rfl rfl 0 (by decide) (hT _ t_1715) (fun _ h9 => h9) rfl (by decide +kernel) rfl rfl (Nat.le_of_ble_eq_true rfl) dX12_told_2 (fun H locs hP hD hS => ?_)
    have hP : va_P D vwCl [(hm, .inr (12, [.int 0, .ref (ma 1), .int 0, .int (-1), .ref (ma 4), .int 0, .int 0, .int 0, .long 0, .int 0, .int 0, .int 0, .int 0, .long 0, .int 0, .int 0, .int 0, .ref (ma 17), .ref (ma 18), .ref (ma 19), .ref (ma 20), .ref (ma 21), .ref (ma 22), .ref (ma 23), .ref (ma 24), .ref (ma 25), .ref (ma 26), .ref (ma 27), .ref (ma 28), .ref (ma 29), .ref (ma 30), .ref (ma 31), .ref (ma 32), .ref (ma 33), .ref (ma 34), .ref (ma 35), .ref (ma 36), .ref (ma 37), .ref (ma 38), .ref (ma 39), .ref (ma 40), .ref (ma 41), .ref (ma 42), .ref (ma 43), .ref (ma 44), .ref (ma 45), .ref (ma 46), .ref (ma 47), .ref (ma 48), .int 0, .int 0, .int 0, .int 0, .int 0, .int 0, .int 0, .int 0, .int 0, .int 0, .ref (ma 59), .ref (ma 60), .int 0, .int 0, .int 0, .int 0, .int 0, .int 0, .ref (ma 67), .ref (ma 68), .ref (ma 69), .int 0, .int (-1), .int 0, .ref (ma 73)])), ((ma 17), .inl (cy 1, 2, .inl (fun _ => 0)))] H := hP
    have hD : va_D A [(hm, .inr (12, [.int 0, .ref (ma 1), .int 0, .int (-1), .ref (ma 4), .int 0, .int 0, .int 0, .long 0, .int 0, .int 0, .int 0, .int 0, .long 0, .int 0, .int 0, .int 0, .ref (ma 17), .ref (ma 18), .ref (ma 19), .ref (ma 20), .ref (ma 21), .ref (ma 22), .ref (ma 23), .ref (ma 24), .ref (ma 25), .ref (ma 26), .ref (ma 27), .ref (ma 28), .ref (ma 29), .ref (ma 30), .ref (ma 31), .ref (ma 32), .ref (ma 33), .ref (ma 34), .ref (ma 35), .ref (ma 36), .ref (ma 37), .ref (ma 38), .ref (ma 39), .ref (ma 40), .ref (ma 41), .ref (ma 42), .ref (ma 43), .ref (ma 44), .ref (ma 45), .ref (ma 46), .ref (ma 47), .ref (ma 48), .int 0, .int 0, .int 0, .int 0, .int 0, .int 0, .int 0, .int 0, .int 0, .int 0, .ref (ma 59), .ref (ma 60), .int 0, .int 0, .int 0, .int 0, .int 0, .int 0, .ref (ma 67), .ref (ma 68), .ref (ma 69), .int 0, .int (-1), .int 0, .ref (ma 73)])), ((ma 17), .inl (cy 1, 2, .inl (fun _ => 0)))] := hD
    refine lv_iload_n hx hb dX12_told_5 rfl (lv_at hl 1 rfl) ?_
    refine lv_if_ne (tgt := 21) hx hb dX12_told_6 (by decide) (fun _ => ?_) (fun c9 => absurd c9 (tld_ne (Or.inr h5) 0 (by decide)))
    refine lv_iload_n hx hb dX12_told_21 rfl (lv_at hl 1 rfl) ?_
    refine lv_iconst (v := 1) hx hb dX12_told_22 (by decide) ?_
    refine lv_icmp_ne (tgt := 33) hx hb dX12_told_23 (by decide) (fun _ => ?_) (fun c9 => absurd c9 (tld_ne (Or.inr h5) 1 (by decide)))
    refine lv_iload_n hx hb dX12_told_33 rfl (lv_at hl 1 rfl) ?_
    refine lv_iconst (v := 2) hx hb dX12_told_34 (by decide) ?_
    refine lv_icmp_ne (tgt := 45) hx hb dX12_told_35 (by decide) (fun _ => ?_) (fun c9 => absurd c9 (tld_ne (Or.inr h5) 2 (by decide)))
    refine lv_iload_n hx hb dX12_told_45 rfl (lv_at hl 1 rfl) ?_
    refine lv_iconst (v := 3) hx hb dX12_told_46 (by decide) ?_
    refine lv_icmp_ne (tgt := 57) hx hb dX12_told_47 (by decide) (fun _ => ?_) (fun c9 => absurd c9 (tld_ne (Or.inr h5) 3 (by decide)))
    refine lv_iload_n hx hb dX12_told_57 rfl (lv_at hl 1 rfl) ?_
    refine lv_iconst (v := 4) hx hb dX12_told_58 (by decide) ?_
    refine lv_icmp_ne (tgt := 69) hx hb dX12_told_59 (by decide) (fun _ => ?_) (fun c9 => absurd c9 (tld_ne (Or.inr h5) 4 (by decide)))
    refine lv_bipush (v := (-2)) hx hb dX12_told_69 (by decide) ?_
    have hP9 := hP.sub (ws' := []) [] rfl
    have hD9 := hD.sub (ws' := []) [] (by decide) rfl
    refine W.widen (k := 0) (n := 0) (Nat.le_of_ble_eq_true rfl) (Nat.le_of_ble_eq_true rfl) ?_
    exact W.iret (v := (-2)) hx hb hr (fun t ht hW => ⟨⟨(-2), (), rfl, (tld_b h5).symm, by rw [ht]; exact hP9, hD9⟩, hS.F ht⟩) hS.2.2 dX12_told_71
  · rcases (show j5 = 0 ∨ j5 = 1 ∨ j5 = 2 ∨ j5 = 3 ∨ j5 = 4 by omega) with rfl | rfl | rfl | rfl | rfl
    · refine lv_aload_n hx hb dX12_told_0 rfl (lv_at hl 0 rfl) ?_
      refine lv_iconst (v := 0) hx hb dX12_told_1 (by decide) ?_
      refine va_put (D := D) (ci := 12) (v := .int 0) (ty := .int) (C := RX12) (T := TX12) (N := 74) hx hb hT i_TX12 tyX12 tyX12_ok nmX12 hown hK hP hD hS 0 rfl rfl 0 (by decide) (hT _ t_1715) (fun _ h9 => h9) rfl (by decide +kernel) rfl rfl (Nat.le_of_ble_eq_true rfl) dX12_told_2 (fun H locs hP hD hS => ?_)
      have hP : va_P D vwCl [(hm, .inr (12, [.int 0, .ref (ma 1), .int 0, .int (-1), .ref (ma 4), .int 0, .int 0, .int 0, .long 0, .int 0, .int 0, .int 0, .int 0, .long 0, .int 0, .int 0, .int 0, .ref (ma 17), .ref (ma 18), .ref (ma 19), .ref (ma 20), .ref (ma 21), .ref (ma 22), .ref (ma 23), .ref (ma 24), .ref (ma 25), .ref (ma 26), .ref (ma 27), .ref (ma 28), .ref (ma 29), .ref (ma 30), .ref (ma 31), .ref (ma 32), .ref (ma 33), .ref (ma 34), .ref (ma 35), .ref (ma 36), .ref (ma 37), .ref (ma 38), .ref (ma 39), .ref (ma 40), .ref (ma 41), .ref (ma 42), .ref (ma 43), .ref (ma 44), .ref (ma 45), .ref (ma 46), .ref (ma 47), .ref (ma 48), .int 0, .int 0, .int 0, .int 0, .int 0, .int 0, .int 0, .int 0, .int 0, .int 0, .ref (ma 59), .ref (ma 60), .int 0, .int 0, .int 0, .int 0, .int 0, .int 0, .ref (ma 67), .ref (ma 68), .ref (ma 69), .int 0, .int (-1), .int 0, .ref (ma 73)])), ((ma 17), .inl (cy 1, 2, .inl (fun _ => 0)))] H := hP
      have hD : va_D A [(hm, .inr (12, [.int 0, .ref (ma 1), .int 0, .int (-1), .ref (ma 4), .int 0, .int 0, .int 0, .long 0, .int 0, .int 0, .int 0, .int 0, .long 0, .int 0, .int 0, .int 0, .ref (ma 17), .ref (ma 18), .ref (ma 19), .ref (ma 20), .ref (ma 21), .ref (ma 22), .ref (ma 23), .ref (ma 24), .ref (ma 25), .ref (ma 26), .ref (ma 27), .ref (ma 28), .ref (ma 29), .ref (ma 30), .ref (ma 31), .ref (ma 32), .ref (ma 33), .ref (ma 34), .ref (ma 35), .ref (ma 36), .ref (ma 37), .ref (ma 38), .ref (ma 39), .ref (ma 40), .ref (ma 41), .ref (ma 42), .ref (ma 43), .ref (ma 44), .ref (ma 45), .ref (ma 46), .ref (ma 47), .ref (ma 48), .int 0, .int 0, .int 0, .int 0, .int 0, .int 0, .int 0, .int 0, .int 0, .int 0, .ref (ma 59), .ref (ma 60), .int 0, .int 0, .int 0, .int 0, .int 0, .int 0, .ref (ma 67), .ref (ma 68), .ref (ma 69), .int 0, .int (-1), .int 0, .ref (ma 73)])), ((ma 17), .inl (cy 1, 2, .inl (fun _ => 0)))] := hD
      refine lv_iload_n hx hb dX12_told_5 rfl (lv_at hl 1 rfl) ?_
      refine lv_if_ne (tgt := 21) hx hb dX12_told_6 (by decide) (fun c9 => absurd (by decide) c9) (fun _ => ?_)
      refine lv_aload_n hx hb dX12_told_9 rfl (lv_at hl 0 rfl) ?_
      refine va_get (D := D) (ci := 12) (v := .ref (ma 17)) (C := RX12) (T := TX12) (N := 74) hx hb hT i_TX12 hown hK hP 0 rfl rfl 17 (by decide) (hT _ t_1732) (fun _ h9 => h9) rfl dX12_told_10 ?_
      refine lv_aload_n hx hb dX12_told_13 rfl (lv_at hl 0 rfl) ?_
      refine va_get (D := D) (ci := 12) (v := .int 0) (C := RX12) (T := TX12) (N := 74) hx hb hT i_TX12 hown hK hP 0 rfl rfl 15 (by decide) (hT _ t_1730) (fun _ h9 => h9) rfl dX12_told_14 ?_
      refine va_iald hx hb hK hP 1 1 rfl rfl (vp_in_iff.mpr (by decide)) dX12_told_17 ?_
      refine lv_topi (fun z1 e2 => ?_)
      obtain rfl : z1 = 0 := e2.trans (by first | decide | rfl)
      refine lv_goto (tgt := 71) hx hb dX12_told_18 (by decide) ?_
      have hP9 := hP.sub (ws' := []) [] rfl
      have hD9 := hD.sub (ws' := []) [] (by decide) rfl
      refine W.widen (k := 0) (n := 0) (Nat.le_of_ble_eq_true rfl) (Nat.le_of_ble_eq_true rfl) ?_
      exact W.iret (v := 0) hx hb hr (fun t ht hW => ⟨⟨0, (), rfl, (by decide), by rw [ht]; exact hP9, hD9⟩, hS.F ht⟩) hS.2.2 dX12_told_71
    · refine lv_aload_n hx hb dX12_told_0 rfl (lv_at hl 0 rfl) ?_
      refine lv_iconst (v := 0) hx hb dX12_told_1 (by decide) ?_
      refine va_put (D := D) (ci := 12) (v := .int 0) (ty := .int) (C := RX12) (T := TX12) (N := 74) hx hb hT i_TX12 tyX12 tyX12_ok nmX12 hown hK hP hD hS 0 rfl rfl 0 (by decide) (hT _ t_1715) (fun _ h9 => h9) rfl (by decide +kernel) rfl rfl (Nat.le_of_ble_eq_true rfl) dX12_told_2 (fun H locs hP hD hS => ?_)
      have hP : va_P D vwCl [(hm, .inr (12, [.int 0, .ref (ma 1), .int 0, .int (-1), .ref (ma 4), .int 0, .int 0, .int 0, .long 0, .int 0, .int 0, .int 0, .int 0, .long 0, .int 0, .int 0, .int 0, .ref (ma 17), .ref (ma 18), .ref (ma 19), .ref (ma 20), .ref (ma 21), .ref (ma 22), .ref (ma 23), .ref (ma 24), .ref (ma 25), .ref (ma 26), .ref (ma 27), .ref (ma 28), .ref (ma 29), .ref (ma 30), .ref (ma 31), .ref (ma 32), .ref (ma 33), .ref (ma 34), .ref (ma 35), .ref (ma 36), .ref (ma 37), .ref (ma 38), .ref (ma 39), .ref (ma 40), .ref (ma 41), .ref (ma 42), .ref (ma 43), .ref (ma 44), .ref (ma 45), .ref (ma 46), .ref (ma 47), .ref (ma 48), .int 0, .int 0, .int 0, .int 0, .int 0, .int 0, .int 0, .int 0, .int 0, .int 0, .ref (ma 59), .ref (ma 60), .int 0, .int 0, .int 0, .int 0, .int 0, .int 0, .ref (ma 67), .ref (ma 68), .ref (ma 69), .int 0, .int (-1), .int 0, .ref (ma 73)])), ((ma 17), .inl (cy 1, 2, .inl (fun _ => 0)))] H := hP
      have hD : va_D A [(hm, .inr (12, [.int 0, .ref (ma 1), .int 0, .int (-1), .ref (ma 4), .int 0, .int 0, .int 0, .long 0, .int 0, .int 0, .int 0, .int 0, .long 0, .int 0, .int 0, .int 0, .ref (ma 17), .ref (ma 18), .ref (ma 19), .ref (ma 20), .ref (ma 21), .ref (ma 22), .ref (ma 23), .ref (ma 24), .ref (ma 25), .ref (ma 26), .ref (ma 27), .ref (ma 28), .ref (ma 29), .ref (ma 30), .ref (ma 31), .ref (ma 32), .ref (ma 33), .ref (ma 34), .ref (ma 35), .ref (ma 36), .ref (ma 37), .ref (ma 38), .ref (ma 39), .ref (ma 40), .ref (ma 41), .ref (ma 42), .ref (ma 43), .ref (ma 44), .ref (ma 45), .ref (ma 46), .ref (ma 47), .ref (ma 48), .int 0, .int 0, .int 0, .int 0, .int 0, .int 0, .int 0, .int 0, .int 0, .int 0, .ref (ma 59), .ref (ma 60), .int 0, .int 0, .int 0, .int 0, .int 0, .int 0, .ref (ma 67), .ref (ma 68), .ref (ma 69), .int 0, .int (-1), .int 0, .ref (ma 73)])), ((ma 17), .inl (cy 1, 2, .inl (fun _ => 0)))] := hD
      refine lv_iload_n hx hb dX12_told_5 rfl (lv_at hl 1 rfl) ?_
      refine lv_if_ne (tgt := 21) hx hb dX12_told_6 (by decide) (fun _ => ?_) (fun c9 => absurd c9 (by decide))
      refine lv_iload_n hx hb dX12_told_21 rfl (lv_at hl 1 rfl) ?_
      refine lv_iconst (v := 1) hx hb dX12_told_22 (by decide) ?_
      refine lv_icmp_ne (tgt := 33) hx hb dX12_told_23 (by decide) (fun c9 => absurd (by decide) c9) (fun _ => ?_)
      refine lv_aload_n hx hb dX12_told_26 rfl (lv_at hl 0 rfl) ?_
      refine va_get (D := D) (ci := 12) (v := .int 0) (C := RX12) (T := TX12) (N := 74) hx hb hT i_TX12 hown hK hP 0 rfl rfl 61 (by decide) (hT _ t_1776) (fun _ h9 => h9) rfl dX12_told_27 ?_
      refine lv_goto (tgt := 71) hx hb dX12_told_30 (by decide) ?_
      have hP9 := hP.sub (ws' := []) [] rfl
      have hD9 := hD.sub (ws' := []) [] (by decide) rfl
      refine W.widen (k := 0) (n := 0) (Nat.le_of_ble_eq_true rfl) (Nat.le_of_ble_eq_true rfl) ?_
      exact W.iret (v := 0) hx hb hr (fun t ht hW => ⟨⟨0, (), rfl, (by decide), by rw [ht]; exact hP9, hD9⟩, hS.F ht⟩) hS.2.2 dX12_told_71
    · refine lv_aload_n hx hb dX12_told_0 rfl (lv_at hl 0 rfl) ?_
      refine lv_iconst (v := 0) hx hb dX12_told_1 (by decide) ?_
      refine va_put (D := D) (ci := 12) (v := .int 0) (ty := .int) (C := RX12) (T := TX12) (N := 74) hx hb hT i_TX12 tyX12 tyX12_ok nmX12 hown hK hP hD hS 0 rfl rfl 0 (by decide) (hT _ t_1715) (fun _ h9 => h9) rfl (by decide +kernel) rfl rfl (Nat.le_of_ble_eq_true rfl) dX12_told_2 (fun H locs hP hD hS => ?_)
      have hP : va_P D vwCl [(hm, .inr (12, [.int 0, .ref (ma 1), .int 0, .int (-1), .ref (ma 4), .int 0, .int 0, .int 0, .long 0, .int 0, .int 0, .int 0, .int 0, .long 0, .int 0, .int 0, .int 0, .ref (ma 17), .ref (ma 18), .ref (ma 19), .ref (ma 20), .ref (ma 21), .ref (ma 22), .ref (ma 23), .ref (ma 24), .ref (ma 25), .ref (ma 26), .ref (ma 27), .ref (ma 28), .ref (ma 29), .ref (ma 30), .ref (ma 31), .ref (ma 32), .ref (ma 33), .ref (ma 34), .ref (ma 35), .ref (ma 36), .ref (ma 37), .ref (ma 38), .ref (ma 39), .ref (ma 40), .ref (ma 41), .ref (ma 42), .ref (ma 43), .ref (ma 44), .ref (ma 45), .ref (ma 46), .ref (ma 47), .ref (ma 48), .int 0, .int 0, .int 0, .int 0, .int 0, .int 0, .int 0, .int 0, .int 0, .int 0, .ref (ma 59), .ref (ma 60), .int 0, .int 0, .int 0, .int 0, .int 0, .int 0, .ref (ma 67), .ref (ma 68), .ref (ma 69), .int 0, .int (-1), .int 0, .ref (ma 73)])), ((ma 17), .inl (cy 1, 2, .inl (fun _ => 0)))] H := hP
      have hD : va_D A [(hm, .inr (12, [.int 0, .ref (ma 1), .int 0, .int (-1), .ref (ma 4), .int 0, .int 0, .int 0, .long 0, .int 0, .int 0, .int 0, .int 0, .long 0, .int 0, .int 0, .int 0, .ref (ma 17), .ref (ma 18), .ref (ma 19), .ref (ma 20), .ref (ma 21), .ref (ma 22), .ref (ma 23), .ref (ma 24), .ref (ma 25), .ref (ma 26), .ref (ma 27), .ref (ma 28), .ref (ma 29), .ref (ma 30), .ref (ma 31), .ref (ma 32), .ref (ma 33), .ref (ma 34), .ref (ma 35), .ref (ma 36), .ref (ma 37), .ref (ma 38), .ref (ma 39), .ref (ma 40), .ref (ma 41), .ref (ma 42), .ref (ma 43), .ref (ma 44), .ref (ma 45), .ref (ma 46), .ref (ma 47), .ref (ma 48), .int 0, .int 0, .int 0, .int 0, .int 0, .int 0, .int 0, .int 0, .int 0, .int 0, .ref (ma 59), .ref (ma 60), .int 0, .int 0, .int 0, .int 0, .int 0, .int 0, .ref (ma 67), .ref (ma 68), .ref (ma 69), .int 0, .int (-1), .int 0, .ref (ma 73)])), ((ma 17), .inl (cy 1, 2, .inl (fun _ => 0)))] := hD
      refine lv_iload_n hx hb dX12_told_5 rfl (lv_at hl 1 rfl) ?_
      refine lv_if_ne (tgt := 21) hx hb dX12_told_6 (by decide) (fun _ => ?_) (fun c9 => absurd c9 (by decide))
      refine lv_iload_n hx hb dX12_told_21 rfl (lv_at hl 1 rfl) ?_
      refine lv_iconst (v := 1) hx hb dX12_told_22 (by decide) ?_
      refine lv_icmp_ne (tgt := 33) hx hb dX12_told_23 (by decide) (fun _ => ?_) (fun c9 => absurd c9 (by decide))
      refine lv_iload_n hx hb dX12_told_33 rfl (lv_at hl 1 rfl) ?_
      refine lv_iconst (v := 2) hx hb dX12_told_34 (by decide) ?_
      refine lv_icmp_ne (tgt := 45) hx hb dX12_told_35 (by decide) (fun c9 => absurd (by decide) c9) (fun _ => ?_)
      refine lv_aload_n hx hb dX12_told_38 rfl (lv_at hl 0 rfl) ?_
      refine va_get (D := D) (ci := 12) (v := .int 0) (C := RX12) (T := TX12) (N := 74) hx hb hT i_TX12 hown hK hP 0 rfl rfl 2 (by decide) (hT _ t_1717) (fun _ h9 => h9) rfl dX12_told_39 ?_
      refine lv_goto (tgt := 71) hx hb dX12_told_42 (by decide) ?_
      have hP9 := hP.sub (ws' := []) [] rfl
      have hD9 := hD.sub (ws' := []) [] (by decide) rfl
      refine W.widen (k := 0) (n := 0) (Nat.le_of_ble_eq_true rfl) (Nat.le_of_ble_eq_true rfl) ?_
      exact W.iret (v := 0) hx hb hr (fun t ht hW => ⟨⟨0, (), rfl, (by decide), by rw [ht]; exact hP9, hD9⟩, hS.F ht⟩) hS.2.2 dX12_told_71
    · refine lv_aload_n hx hb dX12_told_0 rfl (lv_at hl 0 rfl) ?_
      refine lv_iconst (v := 0) hx hb dX12_told_1 (by decide) ?_
      refine va_put (D := D) (ci := 12) (v := .int 0) (ty := .int) (C := RX12) (T := TX12) (N := 74) hx hb hT i_TX12 tyX12 tyX12_ok nmX12 hown hK hP hD hS 0 rfl rfl 0 (by decide) (hT _ t_1715) (fun _ h9 => h9) rfl (by decide +kernel) rfl rfl (Nat.le_of_ble_eq_true rfl) dX12_told_2 (fun H locs hP hD hS => ?_)
      have hP : va_P D vwCl [(hm, .inr (12, [.int 0, .ref (ma 1), .int 0, .int (-1), .ref (ma 4), .int 0, .int 0, .int 0, .long 0, .int 0, .int 0, .int 0, .int 0, .long 0, .int 0, .int 0, .int 0, .ref (ma 17), .ref (ma 18), .ref (ma 19), .ref (ma 20), .ref (ma 21), .ref (ma 22), .ref (ma 23), .ref (ma 24), .ref (ma 25), .ref (ma 26), .ref (ma 27), .ref (ma 28), .ref (ma 29), .ref (ma 30), .ref (ma 31), .ref (ma 32), .ref (ma 33), .ref (ma 34), .ref (ma 35), .ref (ma 36), .ref (ma 37), .ref (ma 38), .ref (ma 39), .ref (ma 40), .ref (ma 41), .ref (ma 42), .ref (ma 43), .ref (ma 44), .ref (ma 45), .ref (ma 46), .ref (ma 47), .ref (ma 48), .int 0, .int 0, .int 0, .int 0, .int 0, .int 0, .int 0, .int 0, .int 0, .int 0, .ref (ma 59), .ref (ma 60), .int 0, .int 0, .int 0, .int 0, .int 0, .int 0, .ref (ma 67), .ref (ma 68), .ref (ma 69), .int 0, .int (-1), .int 0, .ref (ma 73)])), ((ma 17), .inl (cy 1, 2, .inl (fun _ => 0)))] H := hP
      have hD : va_D A [(hm, .inr (12, [.int 0, .ref (ma 1), .int 0, .int (-1), .ref (ma 4), .int 0, .int 0, .int 0, .long 0, .int 0, .int 0, .int 0, .int 0, .long 0, .int 0, .int 0, .int 0, .ref (ma 17), .ref (ma 18), .ref (ma 19), .ref (ma 20), .ref (ma 21), .ref (ma 22), .ref (ma 23), .ref (ma 24), .ref (ma 25), .ref (ma 26), .ref (ma 27), .ref (ma 28), .ref (ma 29), .ref (ma 30), .ref (ma 31), .ref (ma 32), .ref (ma 33), .ref (ma 34), .ref (ma 35), .ref (ma 36), .ref (ma 37), .ref (ma 38), .ref (ma 39), .ref (ma 40), .ref (ma 41), .ref (ma 42), .ref (ma 43), .ref (ma 44), .ref (ma 45), .ref (ma 46), .ref (ma 47), .ref (ma 48), .int 0, .int 0, .int 0, .int 0, .int 0, .int 0, .int 0, .int 0, .int 0, .int 0, .ref (ma 59), .ref (ma 60), .int 0, .int 0, .int 0, .int 0, .int 0, .int 0, .ref (ma 67), .ref (ma 68), .ref (ma 69), .int 0, .int (-1), .int 0, .ref (ma 73)])), ((ma 17), .inl (cy 1, 2, .inl (fun _ => 0)))] := hD
      refine lv_iload_n hx hb dX12_told_5 rfl (lv_at hl 1 rfl) ?_
      refine lv_if_ne (tgt := 21) hx hb dX12_told_6 (by decide) (fun _ => ?_) (fun c9 => absurd c9 (by decide))
      refine lv_iload_n hx hb dX12_told_21 rfl (lv_at hl 1 rfl) ?_
      refine lv_iconst (v := 1) hx hb dX12_told_22 (by decide) ?_
      refine lv_icmp_ne (tgt := 33) hx hb dX12_told_23 (by decide) (fun _ => ?_) (fun c9 => absurd c9 (by decide))
      refine lv_iload_n hx hb dX12_told_33 rfl (lv_at hl 1 rfl) ?_
      refine lv_iconst (v := 2) hx hb dX12_told_34 (by decide) ?_
      refine lv_icmp_ne (tgt := 45) hx hb dX12_told_35 (by decide) (fun _ => ?_) (fun c9 => absurd c9 (by decide))
      refine lv_iload_n hx hb dX12_told_45 rfl (lv_at hl 1 rfl) ?_
      refine lv_iconst (v := 3) hx hb dX12_told_46 (by decide) ?_
      refine lv_icmp_ne (tgt := 57) hx hb dX12_told_47 (by decide) (fun c9 => absurd (by decide) c9) (fun _ => ?_)
      refine lv_aload_n hx hb dX12_told_50 rfl (lv_at hl 0 rfl) ?_
      refine va_get (D := D) (ci := 12) (v := .int 0) (C := RX12) (T := TX12) (N := 74) hx hb hT i_TX12 hown hK hP 0 rfl rfl 62 (by decide) (hT _ t_1777) (fun _ h9 => h9) rfl dX12_told_51 ?_
      refine lv_goto (tgt := 71) hx hb dX12_told_54 (by decide) ?_
      have hP9 := hP.sub (ws' := []) [] rfl
      have hD9 := hD.sub (ws' := []) [] (by decide) rfl
      refine W.widen (k := 0) (n := 0) (Nat.le_of_ble_eq_true rfl) (Nat.le_of_ble_eq_true rfl) ?_
      exact W.iret (v := 0) hx hb hr (fun t ht hW => ⟨⟨0, (), rfl, (by decide), by rw [ht]; exact hP9, hD9⟩, hS.F ht⟩) hS.2.2 dX12_told_71
    · refine lv_aload_n hx hb dX12_told_0 rfl (lv_at hl 0 rfl) ?_
      refine lv_iconst (v := 0) hx hb dX12_told_1 (by decide) ?_
      refine va_put (D := D) (ci := 12) (v := .int 0) (ty := .int) (C := RX12) (T := TX12) (N := 74) hx hb hT i_TX12 tyX12 tyX12_ok nmX12 hown hK hP hD hS 0 rfl rfl 0 (by decide) (hT _ t_1715) (fun _ h9 => h9) rfl (by decide +kernel) rfl rfl (Nat.le_of_ble_eq_true rfl) dX12_told_2 (fun H locs hP hD hS => ?_)
      have hP : va_P D vwCl [(hm, .inr (12, [.int 0, .ref (ma 1), .int 0, .int (-1), .ref (ma 4), .int 0, .int 0, .int 0, .long 0, .int 0, .int 0, .int 0, .int 0, .long 0, .int 0, .int 0, .int 0, .ref (ma 17), .ref (ma 18), .ref (ma 19), .ref (ma 20), .ref (ma 21), .ref (ma 22), .ref (ma 23), .ref (ma 24), .ref (ma 25), .ref (ma 26), .ref (ma 27), .ref (ma 28), .ref (ma 29), .ref (ma 30), .ref (ma 31), .ref (ma 32), .ref (ma 33), .ref (ma 34), .ref (ma 35), .ref (ma 36), .ref (ma 37), .ref (ma 38), .ref (ma 39), .ref (ma 40), .ref (ma 41), .ref (ma 42), .ref (ma 43), .ref (ma 44), .ref (ma 45), .ref (ma 46), .ref (ma 47), .ref (ma 48), .int 0, .int 0, .int 0, .int 0, .int 0, .int 0, .int 0, .int 0, .int 0, .int 0, .ref (ma 59), .ref (ma 60), .int 0, .int 0, .int 0, .int 0, .int 0, .int 0, .ref (ma 67), .ref (ma 68), .ref (ma 69), .int 0, .int (-1), .int 0, .ref (ma 73)])), ((ma 17), .inl (cy 1, 2, .inl (fun _ => 0)))] H := hP
      have hD : va_D A [(hm, .inr (12, [.int 0, .ref (ma 1), .int 0, .int (-1), .ref (ma 4), .int 0, .int 0, .int 0, .long 0, .int 0, .int 0, .int 0, .int 0, .long 0, .int 0, .int 0, .int 0, .ref (ma 17), .ref (ma 18), .ref (ma 19), .ref (ma 20), .ref (ma 21), .ref (ma 22), .ref (ma 23), .ref (ma 24), .ref (ma 25), .ref (ma 26), .ref (ma 27), .ref (ma 28), .ref (ma 29), .ref (ma 30), .ref (ma 31), .ref (ma 32), .ref (ma 33), .ref (ma 34), .ref (ma 35), .ref (ma 36), .ref (ma 37), .ref (ma 38), .ref (ma 39), .ref (ma 40), .ref (ma 41), .ref (ma 42), .ref (ma 43), .ref (ma 44), .ref (ma 45), .ref (ma 46), .ref (ma 47), .ref (ma 48), .int 0, .int 0, .int 0, .int 0, .int 0, .int 0, .int 0, .int 0, .int 0, .int 0, .ref (ma 59), .ref (ma 60), .int 0, .int 0, .int 0, .int 0, .int 0, .int 0, .ref (ma 67), .ref (ma 68), .ref (ma 69), .int 0, .int (-1), .int 0, .ref (ma 73)])), ((ma 17), .inl (cy 1, 2, .inl (fun _ => 0)))] := hD
      refine lv_iload_n hx hb dX12_told_5 rfl (lv_at hl 1 rfl) ?_
      refine lv_if_ne (tgt := 21) hx hb dX12_told_6 (by decide) (fun _ => ?_) (fun c9 => absurd c9 (by decide))
      refine lv_iload_n hx hb dX12_told_21 rfl (lv_at hl 1 rfl) ?_
      refine lv_iconst (v := 1) hx hb dX12_told_22 (by decide) ?_
      refine lv_icmp_ne (tgt := 33) hx hb dX12_told_23 (by decide) (fun _ => ?_) (fun c9 => absurd c9 (by decide))
      refine lv_iload_n hx hb dX12_told_33 rfl (lv_at hl 1 rfl) ?_
      refine lv_iconst (v := 2) hx hb dX12_told_34 (by decide) ?_
      refine lv_icmp_ne (tgt := 45) hx hb dX12_told_35 (by decide) (fun _ => ?_) (fun c9 => absurd c9 (by decide))
      refine lv_iload_n hx hb dX12_told_45 rfl (lv_at hl 1 rfl) ?_
      refine lv_iconst (v := 3) hx hb dX12_told_46 (by decide) ?_
      refine lv_icmp_ne (tgt := 57) hx hb dX12_told_47 (by decide) (fun _ => ?_) (fun c9 => absurd c9 (by decide))
      refine lv_iload_n hx hb dX12_told_57 rfl (lv_at hl 1 rfl) ?_
      refine lv_iconst (v := 4) hx hb dX12_told_58 (by decide) ?_
      refine lv_icmp_ne (tgt := 69) hx hb dX12_told_59 (by decide) (fun c9 => absurd (by decide) c9) (fun _ => ?_)
      refine lv_aload_n hx hb dX12_told_62 rfl (lv_at hl 0 rfl) ?_
      refine va_get (D := D) (ci := 12) (v := .int 0) (C := RX12) (T := TX12) (N := 74) hx hb hT i_TX12 hown hK hP 0 rfl rfl 63 (by decide) (hT _ t_1778) (fun _ h9 => h9) rfl dX12_told_63 ?_
      refine lv_goto (tgt := 71) hx hb dX12_told_66 (by decide) ?_
      have hP9 := hP.sub (ws' := []) [] rfl
      have hD9 := hD.sub (ws' := []) [] (by decide) rfl
      refine W.widen (k := 0) (n := 0) (Nat.le_of_ble_eq_true rfl) (Nat.le_of_ble_eq_true rfl) ?_
      exact W.iret (v := 0) hx hb hr (fun t ht hW => ⟨⟨0, (), rfl, (by decide), by rw [ht]; exact hP9, hD9⟩, hS.F ht⟩) hS.2.2 dX12_told_71

set_option maxHeartbeats 4000000 in
set_option maxRecDepth 100000 in
theorem c_type (l : Launch) (D : va_G) (cy : Nat → ClassId) (sz : Nat) (hx0 : Nat) (xa : Nat → Nat) (p0 : Int32) (p1 : Int32) : Met l yX11_type (.code yX11_type cX11_type 4 (some .int) :: TB) ({ frames := 1, cells := 0, slots := 0, locals := 21 }) (va_Pc [.ref hx0, .int p0, .int p1] (fun U => U.heap.size = sz ∧ va_P D vwCl [(hx0, .inr (11, [.ref (xa 0), .int 0, .int (-1), .ref (xa 1), .ref (xa 2), .ref (xa 3), .ref (xa 4), .ref (xa 5)])), ((xa 1), .inr (7, [.ref (xa 6), .int 0, .ref (xa 7), .ref (xa 8), .int 0, .ref (xa 9), .int 0, .int 0, .int 0]))] U.heap ∧ va_K D vwCl (TY cy) U ∧ va_D (fun _ => True) [(hx0, .inr (11, [.ref (xa 0), .int 0, .int (-1), .ref (xa 1), .ref (xa 2), .ref (xa 3), .ref (xa 4), .ref (xa 5)])), ((xa 1), .inr (7, [.ref (xa 6), .int 0, .ref (xa 7), .ref (xa 8), .int 0, .ref (xa 9), .int 0, .int 0, .int 0]))])) (va_Qi (fun (r : Int32) (u : Unit) => r = -1) (fun (u : Unit) t => va_P D vwCl [] t.heap ∧ va_D (va_A [(hx0, .inr (11, [.ref (xa 0), .int 0, .int (-1), .ref (xa 1), .ref (xa 2), .ref (xa 3), .ref (xa 4), .ref (xa 5)])), ((xa 1), .inr (7, [.ref (xa 6), .int 0, .ref (xa 7), .ref (xa 8), .int 0, .ref (xa 9), .int 0, .int 0, .int 0]))] sz) []) (va_A [(hx0, .inr (11, [.ref (xa 0), .int 0, .int (-1), .ref (xa 1), .ref (xa 2), .ref (xa 3), .ref (xa 4), .ref (xa 5)])), ((xa 1), .inr (7, [.ref (xa 6), .int 0, .ref (xa 7), .ref (xa 8), .int 0, .ref (xa 9), .int 0, .int 0, .int 0]))] sz)) 0 0 (va_A [(hx0, .inr (11, [.ref (xa 0), .int 0, .int (-1), .ref (xa 1), .ref (xa 2), .ref (xa 3), .ref (xa 4), .ref (xa 5)])), ((xa 1), .inr (7, [.ref (xa 6), .int 0, .ref (xa 7), .ref (xa 8), .int 0, .ref (xa 9), .int 0, .int 0, .int 0]))] sz) := by
  refine Met.ofW (cc := cX11_type) (maxL := 4) (ret := (some .int)) (by decide) rfl ?_
  intro p e s m args below meth c s₁ B hml hv
  obtain ⟨rfl, hsz, hP, hK, hD0⟩ := hv
  have hx := B.exec
  have hb := B.bytes
  have hr := B.returns
  have hts := atoms_spec (ws := .code yX11_type cX11_type 4 (some .int) :: TB) B.pre
  have hT : ∀ w ∈ TB, w.before _ s = true := fun w h => hts w (List.mem_cons_of_mem _ h)
  have hown : s.vm.findClass "MakerStarts" = some m.cls := findClass_of_methodNamed B.named
  have hlocks := B.notSynchronized
  subst hsz
  have hD := hD0.self (sz := s.heap.size)
  generalize hAe : va_A [(hx0, .inr (11, [.ref (xa 0), .int 0, .int (-1), .ref (xa 1), .ref (xa 2), .ref (xa 3), .ref (xa 4), .ref (xa 5)])), ((xa 1), .inr (7, [.ref (xa 6), .int 0, .ref (xa 7), .ref (xa 8), .int 0, .ref (xa 9), .int 0, .int 0, .int 0]))] s.heap.size = A at hD  ⊢
  have hA : ∀ q : Nat, s.heap.size ≤ q → A q := fun q h => by rw [← hAe]; exact Or.inr h
  have hS : va_S A s.heap s.heap [] := va_S.rf
  have hP : va_P D vwCl [(hx0, .inr (11, [.ref (xa 0), .int 0, .int (-1), .ref (xa 1), .ref (xa 2), .ref (xa 3), .ref (xa 4), .ref (xa 5)])), ((xa 1), .inr (7, [.ref (xa 6), .int 0, .ref (xa 7), .ref (xa 8), .int 0, .ref (xa 9), .int 0, .int 0, .int 0]))] s.heap := hP
  have hl := lv_entry ([.ref hx0, .int p0, .int p1]) (n := 4) (Nat.le_of_ble_eq_true rfl)
  rw [lg_entry_eq]
  generalize (lg_sl ([.ref hx0, .int p0, .int p1]) ++ List.replicate (4 - (lg_sl ([.ref hx0, .int p0, .int p1])).length) Slot.unset).toArray = ls at hl ⊢
  have hl : lv_has ls 4 [(0, .ref hx0), (1, .int p0), (2, .int p1)] := hl
  refine lv_aload_n hx hb dX11_type_0 rfl (lv_at hl 0 rfl) ?_
  refine va_get (D := D) (ci := 11) (v := .ref (xa 1)) (C := RX11) (T := TX11) (N := 8) hx hb hT i_TX11 hown hK hP 0 rfl rfl 3 (by decide) (hT _ t_536) (fun _ h9 => h9) rfl dX11_type_1 ?_
  refine lv_iload_n hx hb dX11_type_4 rfl (lv_at hl 1 rfl) ?_
  have hPc := hP.sub (ws' := [((xa 1), .inr (7, [.ref (xa 6), .int 0, .ref (xa 7), .ref (xa 8), .int 0, .ref (xa 9), .int 0, .int 0, .int 0]))]) [1] rfl
  have hDc := hD.sub (ws' := [((xa 1), .inr (7, [.ref (xa 6), .int 0, .ref (xa 7), .ref (xa 8), .int 0, .ref (xa 9), .int 0, .int 0, .int 0]))]) [1] (by decide) rfl
  have hFc := va_free (wc := [((xa 1), .inr (7, [.ref (xa 6), .int 0, .ref (xa 7), .ref (xa 8), .int 0, .ref (xa 9), .int 0, .int 0, .int 0]))]) hD hS hA [1] rfl
  refine va_callq (va_runV (As := [.int p0]) (rest := []) ⟨hx, hb, hml, hown, hT⟩ (c_typeAt l D cy s.heap.size (xa 1) (xa 6) (xa 7) (xa 8) (xa 9) p0) (cwV 1 hT (gTBV t_1537 t_1263 t_1264 t_139 t_1265) rfl rfl rfl (by decide +kernel) ⟨Nat.le_of_ble_eq_true rfl, Nat.le_of_ble_eq_true rfl⟩) ⟨fun a U g mk q => by obtain ⟨q0, q1, qP, qK, qD⟩ := q; exact ⟨q0, q1, qP, va_K.moved (u := U) (U := U.calling g mk a) (Vm.Alike.refl U.vm) qK, qD⟩, va_recv hK hPc (ci := 7) (q0 := 0) rfl rfl, fun U hU hW => ⟨rfl, by rw [hU], by rw [hU]; exact hPc, va_K.moved hW.alike hK, hDc.weaken (fun _ _ _ _ => trivial)⟩⟩ rfl rfl hl.1 rfl (lv_room (Nat.le_of_ble_eq_true rfl)) dX11_type_5 ⟨Nat.le_of_ble_eq_true rfl, Nat.le_of_ble_eq_true rfl⟩) hS (fun q _ h => hFc q h) hFc (fun r1 u t H1 locs ht hvm w2 hB hz1 hk1 hS => ?_)
  obtain ⟨hP1, hD1⟩ := hB
  rw [ht] at hP1
  obtain ⟨hP, hD⟩ := va_join (wr := [(hx0, .inr (11, [.ref (xa 0), .int 0, .int (-1), .ref (xa 1), .ref (xa 2), .ref (xa 3), .ref (xa 4), .ref (xa 5)]))]) (w1 := [((xa 1), .inr (7, [.ref (xa 6), .int 0, .ref (xa 7), .ref (xa 8), .int 0, .ref (xa 9), .int 0, .int 0, .int 0]))]) hP hD [1] [0] rfl rfl (by decide) (by decide) hk1 hFc hP1 hD1
  generalize H1 = H at hP hS ⊢
  have hP : va_P D vwCl [(hx0, .inr (11, [.ref (xa 0), .int 0, .int (-1), .ref (xa 1), .ref (xa 2), .ref (xa 3), .ref (xa 4), .ref (xa 5)])), ((xa 1), .inr (7, [.ref (xa 6), .int 0, .ref (xa 7), .ref (xa 8), .int 0, .ref (xa 9), .int 0, .int 0, .int 0]))] H := hP
  have hD : va_D A [(hx0, .inr (11, [.ref (xa 0), .int 0, .int (-1), .ref (xa 1), .ref (xa 2), .ref (xa 3), .ref (xa 4), .ref (xa 5)])), ((xa 1), .inr (7, [.ref (xa 6), .int 0, .ref (xa 7), .ref (xa 8), .int 0, .ref (xa 9), .int 0, .int 0, .int 0]))] := hD
  obtain rfl := w2
  refine lv_astore_nN (lv' := [(3, .null), (0, .ref hx0), (1, .int p0), (2, .int p1)]) hx hb dX11_type_8 rfl hl (by decide) rfl (fun ls hl => ?_)
  refine lv_aload_nN hx hb dX11_type_9 rfl (lv_at hl 0 rfl) ?_
  refine lv_ifnonnullN hx hb dX11_type_10 ?_
  refine lv_iconst (v := (-1)) hx hb dX11_type_13 (by decide) ?_
  have hP9 := hP.sub (ws' := []) [] rfl
  have hD9 := hD.sub (ws' := []) [] (by decide) rfl
  refine W.widen (k := 0) (n := 0) (Nat.le_of_ble_eq_true rfl) (Nat.le_of_ble_eq_true rfl) ?_
  exact W.iret (v := (-1)) hx hb hr (fun t ht hW => ⟨⟨(-1), (), rfl, rfl, by rw [ht]; exact hP9, hD9⟩, hS.F ht⟩) hS.2.2 dX11_type_14

set_option maxHeartbeats 4000000 in
set_option maxRecDepth 100000 in
theorem m_type (l : Launch) (D : va_G) (cy : Nat → ClassId) (sz : Nat) (hm : Nat) (ma : Nat → Nat) (p0 : Int32) (p1 : Int32) : Met l yX12_type (.code yX12_type cX12_type 7 (some .int) :: TB) ({ frames := 0, cells := 0, slots := 0, locals := 0 }) (va_Pc [.ref hm, .int p0, .int p1] (fun U => U.heap.size = sz ∧ va_P D vwCl [(hm, .inr (12, [.int 0, .ref (ma 1), .int 0, .int (-1), .ref (ma 4), .int 0, .int 0, .int 0, .long 0, .int 0, .int 0, .int 0, .int 0, .long 0, .int 0, .int 0, .int 0, .ref (ma 17), .ref (ma 18), .ref (ma 19), .ref (ma 20), .ref (ma 21), .ref (ma 22), .ref (ma 23), .ref (ma 24), .ref (ma 25), .ref (ma 26), .ref (ma 27), .ref (ma 28), .ref (ma 29), .ref (ma 30), .ref (ma 31), .ref (ma 32), .ref (ma 33), .ref (ma 34), .ref (ma 35), .ref (ma 36), .ref (ma 37), .ref (ma 38), .ref (ma 39), .ref (ma 40), .ref (ma 41), .ref (ma 42), .ref (ma 43), .ref (ma 44), .ref (ma 45), .ref (ma 46), .ref (ma 47), .ref (ma 48), .int 0, .int 0, .int 0, .int 0, .int 0, .int 0, .int 0, .int 0, .int 0, .int 0, .ref (ma 59), .ref (ma 60), .int 0, .int 0, .int 0, .int 0, .int 0, .int 0, .ref (ma 67), .ref (ma 68), .ref (ma 69), .int 0, .int (-1), .int 0, .ref (ma 73)])), ((ma 17), .inl (cy 1, 2, .inl (fun _ => 0)))] U.heap ∧ va_K D vwCl (TY cy) U ∧ va_D (fun _ => True) [(hm, .inr (12, [.int 0, .ref (ma 1), .int 0, .int (-1), .ref (ma 4), .int 0, .int 0, .int 0, .long 0, .int 0, .int 0, .int 0, .int 0, .long 0, .int 0, .int 0, .int 0, .ref (ma 17), .ref (ma 18), .ref (ma 19), .ref (ma 20), .ref (ma 21), .ref (ma 22), .ref (ma 23), .ref (ma 24), .ref (ma 25), .ref (ma 26), .ref (ma 27), .ref (ma 28), .ref (ma 29), .ref (ma 30), .ref (ma 31), .ref (ma 32), .ref (ma 33), .ref (ma 34), .ref (ma 35), .ref (ma 36), .ref (ma 37), .ref (ma 38), .ref (ma 39), .ref (ma 40), .ref (ma 41), .ref (ma 42), .ref (ma 43), .ref (ma 44), .ref (ma 45), .ref (ma 46), .ref (ma 47), .ref (ma 48), .int 0, .int 0, .int 0, .int 0, .int 0, .int 0, .int 0, .int 0, .int 0, .int 0, .ref (ma 59), .ref (ma 60), .int 0, .int 0, .int 0, .int 0, .int 0, .int 0, .ref (ma 67), .ref (ma 68), .ref (ma 69), .int 0, .int (-1), .int 0, .ref (ma 73)])), ((ma 17), .inl (cy 1, 2, .inl (fun _ => 0)))])) (va_Qi (fun (r : Int32) (u : Unit) => r = -1) (fun (u : Unit) t => va_P D vwCl [] t.heap ∧ va_D (va_A [(hm, .inr (12, [.int 0, .ref (ma 1), .int 0, .int (-1), .ref (ma 4), .int 0, .int 0, .int 0, .long 0, .int 0, .int 0, .int 0, .int 0, .long 0, .int 0, .int 0, .int 0, .ref (ma 17), .ref (ma 18), .ref (ma 19), .ref (ma 20), .ref (ma 21), .ref (ma 22), .ref (ma 23), .ref (ma 24), .ref (ma 25), .ref (ma 26), .ref (ma 27), .ref (ma 28), .ref (ma 29), .ref (ma 30), .ref (ma 31), .ref (ma 32), .ref (ma 33), .ref (ma 34), .ref (ma 35), .ref (ma 36), .ref (ma 37), .ref (ma 38), .ref (ma 39), .ref (ma 40), .ref (ma 41), .ref (ma 42), .ref (ma 43), .ref (ma 44), .ref (ma 45), .ref (ma 46), .ref (ma 47), .ref (ma 48), .int 0, .int 0, .int 0, .int 0, .int 0, .int 0, .int 0, .int 0, .int 0, .int 0, .ref (ma 59), .ref (ma 60), .int 0, .int 0, .int 0, .int 0, .int 0, .int 0, .ref (ma 67), .ref (ma 68), .ref (ma 69), .int 0, .int (-1), .int 0, .ref (ma 73)])), ((ma 17), .inl (cy 1, 2, .inl (fun _ => 0)))] sz) []) (va_A [(hm, .inr (12, [.int 0, .ref (ma 1), .int 0, .int (-1), .ref (ma 4), .int 0, .int 0, .int 0, .long 0, .int 0, .int 0, .int 0, .int 0, .long 0, .int 0, .int 0, .int 0, .ref (ma 17), .ref (ma 18), .ref (ma 19), .ref (ma 20), .ref (ma 21), .ref (ma 22), .ref (ma 23), .ref (ma 24), .ref (ma 25), .ref (ma 26), .ref (ma 27), .ref (ma 28), .ref (ma 29), .ref (ma 30), .ref (ma 31), .ref (ma 32), .ref (ma 33), .ref (ma 34), .ref (ma 35), .ref (ma 36), .ref (ma 37), .ref (ma 38), .ref (ma 39), .ref (ma 40), .ref (ma 41), .ref (ma 42), .ref (ma 43), .ref (ma 44), .ref (ma 45), .ref (ma 46), .ref (ma 47), .ref (ma 48), .int 0, .int 0, .int 0, .int 0, .int 0, .int 0, .int 0, .int 0, .int 0, .int 0, .ref (ma 59), .ref (ma 60), .int 0, .int 0, .int 0, .int 0, .int 0, .int 0, .ref (ma 67), .ref (ma 68), .ref (ma 69), .int 0, .int (-1), .int 0, .ref (ma 73)])), ((ma 17), .inl (cy 1, 2, .inl (fun _ => 0)))] sz)) 0 0 (va_A [(hm, .inr (12, [.int 0, .ref (ma 1), .int 0, .int (-1), .ref (ma 4), .int 0, .int 0, .int 0, .long 0, .int 0, .int 0, .int 0, .int 0, .long 0, .int 0, .int 0, .int 0, .ref (ma 17), .ref (ma 18), .ref (ma 19), .ref (ma 20), .ref (ma 21), .ref (ma 22), .ref (ma 23), .ref (ma 24), .ref (ma 25), .ref (ma 26), .ref (ma 27), .ref (ma 28), .ref (ma 29), .ref (ma 30), .ref (ma 31), .ref (ma 32), .ref (ma 33), .ref (ma 34), .ref (ma 35), .ref (ma 36), .ref (ma 37), .ref (ma 38), .ref (ma 39), .ref (ma 40), .ref (ma 41), .ref (ma 42), .ref (ma 43), .ref (ma 44), .ref (ma 45), .ref (ma 46), .ref (ma 47), .ref (ma 48), .int 0, .int 0, .int 0, .int 0, .int 0, .int 0, .int 0, .int 0, .int 0, .int 0, .ref (ma 59), .ref (ma 60), .int 0, .int 0, .int 0, .int 0, .int 0, .int 0, .ref (ma 67), .ref (ma 68), .ref (ma 69), .int 0, .int (-1), .int 0, .ref (ma 73)])), ((ma 17), .inl (cy 1, 2, .inl (fun _ => 0)))] sz) := by
  refine Met.ofW (cc := cX12_type) (maxL := 7) (ret := (some .int)) (by decide) rfl ?_
  intro p e s m args below meth c s₁ B hml hv
  obtain ⟨rfl, hsz, hP, hK, hD0⟩ := hv
  have hx := B.exec
  have hb := B.bytes
  have hr := B.returns
  have hts := atoms_spec (ws := .code yX12_type cX12_type 7 (some .int) :: TB) B.pre
  have hT : ∀ w ∈ TB, w.before _ s = true := fun w h => hts w (List.mem_cons_of_mem _ h)
  have hown : s.vm.findClass "MakerStartsModel" = some m.cls := findClass_of_methodNamed B.named
  have hlocks := B.notSynchronized
  subst hsz
  have hD := hD0.self (sz := s.heap.size)
  generalize hAe : va_A [(hm, .inr (12, [.int 0, .ref (ma 1), .int 0, .int (-1), .ref (ma 4), .int 0, .int 0, .int 0, .long 0, .int 0, .int 0, .int 0, .int 0, .long 0, .int 0, .int 0, .int 0, .ref (ma 17), .ref (ma 18), .ref (ma 19), .ref (ma 20), .ref (ma 21), .ref (ma 22), .ref (ma 23), .ref (ma 24), .ref (ma 25), .ref (ma 26), .ref (ma 27), .ref (ma 28), .ref (ma 29), .ref (ma 30), .ref (ma 31), .ref (ma 32), .ref (ma 33), .ref (ma 34), .ref (ma 35), .ref (ma 36), .ref (ma 37), .ref (ma 38), .ref (ma 39), .ref (ma 40), .ref (ma 41), .ref (ma 42), .ref (ma 43), .ref (ma 44), .ref (ma 45), .ref (ma 46), .ref (ma 47), .ref (ma 48), .int 0, .int 0, .int 0, .int 0, .int 0, .int 0, .int 0, .int 0, .int 0, .int 0, .ref (ma 59), .ref (ma 60), .int 0, .int 0, .int 0, .int 0, .int 0, .int 0, .ref (ma 67), .ref (ma 68), .ref (ma 69), .int 0, .int (-1), .int 0, .ref (ma 73)])), ((ma 17), .inl (cy 1, 2, .inl (fun _ => 0)))] s.heap.size = A at hD  ⊢
  have hA : ∀ q : Nat, s.heap.size ≤ q → A q := fun q h => by rw [← hAe]; exact Or.inr h
  have hS : va_S A s.heap s.heap [] := va_S.rf
  have hP : va_P D vwCl [(hm, .inr (12, [.int 0, .ref (ma 1), .int 0, .int (-1), .ref (ma 4), .int 0, .int 0, .int 0, .long 0, .int 0, .int 0, .int 0, .int 0, .long 0, .int 0, .int 0, .int 0, .ref (ma 17), .ref (ma 18), .ref (ma 19), .ref (ma 20), .ref (ma 21), .ref (ma 22), .ref (ma 23), .ref (ma 24), .ref (ma 25), .ref (ma 26), .ref (ma 27), .ref (ma 28), .ref (ma 29), .ref (ma 30), .ref (ma 31), .ref (ma 32), .ref (ma 33), .ref (ma 34), .ref (ma 35), .ref (ma 36), .ref (ma 37), .ref (ma 38), .ref (ma 39), .ref (ma 40), .ref (ma 41), .ref (ma 42), .ref (ma 43), .ref (ma 44), .ref (ma 45), .ref (ma 46), .ref (ma 47), .ref (ma 48), .int 0, .int 0, .int 0, .int 0, .int 0, .int 0, .int 0, .int 0, .int 0, .int 0, .ref (ma 59), .ref (ma 60), .int 0, .int 0, .int 0, .int 0, .int 0, .int 0, .ref (ma 67), .ref (ma 68), .ref (ma 69), .int 0, .int (-1), .int 0, .ref (ma 73)])), ((ma 17), .inl (cy 1, 2, .inl (fun _ => 0)))] s.heap := hP
  have hl := lv_entry ([.ref hm, .int p0, .int p1]) (n := 7) (Nat.le_of_ble_eq_true rfl)
  rw [lg_entry_eq]
  generalize (lg_sl ([.ref hm, .int p0, .int p1]) ++ List.replicate (7 - (lg_sl ([.ref hm, .int p0, .int p1])).length) Slot.unset).toArray = ls at hl ⊢
  have hl : lv_has ls 7 [(0, .ref hm), (1, .int p0), (2, .int p1)] := hl
  refine lv_aload_n hx hb dX12_type_0 rfl (lv_at hl 0 rfl) ?_
  refine lv_iconst (v := 0) hx hb dX12_type_1 (by decide) ?_
  refine va_put (D := D) (ci := 12) (v := .int 0) (ty := .int) (C := RX12) (T := TX12) (N := 74) hx hb hT i_TX12 tyX12 tyX12_ok nmX12 hown hK hP hD hS 0 rfl rfl 0 (by decide) (hT _ t_1715) (fun _ h9 => h9) rfl (by decide +kernel) rfl rfl (Nat.le_of_ble_eq_true rfl) dX12_type_2 (fun H locs hP hD hS => ?_)
  have hP : va_P D vwCl [(hm, .inr (12, [.int 0, .ref (ma 1), .int 0, .int (-1), .ref (ma 4), .int 0, .int 0, .int 0, .long 0, .int 0, .int 0, .int 0, .int 0, .long 0, .int 0, .int 0, .int 0, .ref (ma 17), .ref (ma 18), .ref (ma 19), .ref (ma 20), .ref (ma 21), .ref (ma 22), .ref (ma 23), .ref (ma 24), .ref (ma 25), .ref (ma 26), .ref (ma 27), .ref (ma 28), .ref (ma 29), .ref (ma 30), .ref (ma 31), .ref (ma 32), .ref (ma 33), .ref (ma 34), .ref (ma 35), .ref (ma 36), .ref (ma 37), .ref (ma 38), .ref (ma 39), .ref (ma 40), .ref (ma 41), .ref (ma 42), .ref (ma 43), .ref (ma 44), .ref (ma 45), .ref (ma 46), .ref (ma 47), .ref (ma 48), .int 0, .int 0, .int 0, .int 0, .int 0, .int 0, .int 0, .int 0, .int 0, .int 0, .ref (ma 59), .ref (ma 60), .int 0, .int 0, .int 0, .int 0, .int 0, .int 0, .ref (ma 67), .ref (ma 68), .ref (ma 69), .int 0, .int (-1), .int 0, .ref (ma 73)])), ((ma 17), .inl (cy 1, 2, .inl (fun _ => 0)))] H := hP
  have hD : va_D A [(hm, .inr (12, [.int 0, .ref (ma 1), .int 0, .int (-1), .ref (ma 4), .int 0, .int 0, .int 0, .long 0, .int 0, .int 0, .int 0, .int 0, .long 0, .int 0, .int 0, .int 0, .ref (ma 17), .ref (ma 18), .ref (ma 19), .ref (ma 20), .ref (ma 21), .ref (ma 22), .ref (ma 23), .ref (ma 24), .ref (ma 25), .ref (ma 26), .ref (ma 27), .ref (ma 28), .ref (ma 29), .ref (ma 30), .ref (ma 31), .ref (ma 32), .ref (ma 33), .ref (ma 34), .ref (ma 35), .ref (ma 36), .ref (ma 37), .ref (ma 38), .ref (ma 39), .ref (ma 40), .ref (ma 41), .ref (ma 42), .ref (ma 43), .ref (ma 44), .ref (ma 45), .ref (ma 46), .ref (ma 47), .ref (ma 48), .int 0, .int 0, .int 0, .int 0, .int 0, .int 0, .int 0, .int 0, .int 0, .int 0, .ref (ma 59), .ref (ma 60), .int 0, .int 0, .int 0, .int 0, .int 0, .int 0, .ref (ma 67), .ref (ma 68), .ref (ma 69), .int 0, .int (-1), .int 0, .ref (ma 73)])), ((ma 17), .inl (cy 1, 2, .inl (fun _ => 0)))] := hD
  refine lv_iload_n hx hb dX12_type_5 rfl (lv_at hl 1 rfl) ?_
  refine lv_if_lt (tgt := 22) hx hb dX12_type_6 (by decide) (fun c1 => ?_) (fun c1 => ?_)
  · refine lv_iconst (v := (-1)) hx hb dX12_type_22 (by decide) ?_
    have hP9 := hP.sub (ws' := []) [] rfl
    have hD9 := hD.sub (ws' := []) [] (by decide) rfl
    refine W.widen (k := 0) (n := 0) (Nat.le_of_ble_eq_true rfl) (Nat.le_of_ble_eq_true rfl) ?_
    exact W.iret (v := (-1)) hx hb hr (fun t ht hW => ⟨⟨(-1), (), rfl, rfl, by rw [ht]; exact hP9, hD9⟩, hS.F ht⟩) hS.2.2 dX12_type_23
  · refine lv_iload_n hx hb dX12_type_9 rfl (lv_at hl 1 rfl) ?_
    refine lv_aload_n hx hb dX12_type_10 rfl (lv_at hl 0 rfl) ?_
    refine va_get (D := D) (ci := 12) (v := .ref (ma 17)) (C := RX12) (T := TX12) (N := 74) hx hb hT i_TX12 hown hK hP 0 rfl rfl 17 (by decide) (hT _ t_1732) (fun _ h9 => h9) rfl dX12_type_11 ?_
    refine lv_aload_n hx hb dX12_type_14 rfl (lv_at hl 0 rfl) ?_
    refine va_get (D := D) (ci := 12) (v := .int 0) (C := RX12) (T := TX12) (N := 74) hx hb hT i_TX12 hown hK hP 0 rfl rfl 15 (by decide) (hT _ t_1730) (fun _ h9 => h9) rfl dX12_type_15 ?_
    refine va_iald hx hb hK hP 1 1 rfl rfl (vp_in_iff.mpr (by decide)) dX12_type_18 ?_
    refine lv_topi (fun z2 e3 => ?_)
    obtain rfl : z2 = 0 := e3.trans (by first | decide | rfl)
    refine lv_icmp_lt (tgt := 24) hx hb dX12_type_19 (by decide) (fun c9 => absurd c9 c1) (fun _ => ?_)
    refine lv_iconst (v := (-1)) hx hb dX12_type_22 (by decide) ?_
    have hP9 := hP.sub (ws' := []) [] rfl
    have hD9 := hD.sub (ws' := []) [] (by decide) rfl
    refine W.widen (k := 0) (n := 0) (Nat.le_of_ble_eq_true rfl) (Nat.le_of_ble_eq_true rfl) ?_
    exact W.iret (v := (-1)) hx hb hr (fun t ht hW => ⟨⟨(-1), (), rfl, rfl, by rw [ht]; exact hP9, hD9⟩, hS.F ht⟩) hS.2.2 dX12_type_23

set_option maxHeartbeats 4000000 in
set_option maxRecDepth 100000 in
theorem c_make (l : Launch) (D : va_G) (cy : Nat → ClassId) (sz : Nat) (hx0 : Nat) (xa : Nat → Nat) (p0 : Int32) (p1 : Int32) (p2 : Int32) (p3 : Int32) (p4 : Int32) : Met l yX11_make (.code yX11_make cX11_make 8 (some .int) :: TB) ({ frames := 1, cells := 0, slots := 0, locals := 21 }) (va_Pc [.ref hx0, .int p0, .int p1, .int p2, .int p3, .int p4] (fun U => U.heap.size = sz ∧ va_P D vwCl [(hx0, .inr (11, [.ref (xa 0), .int 0, .int (-1), .ref (xa 1), .ref (xa 2), .ref (xa 3), .ref (xa 4), .ref (xa 5)])), ((xa 1), .inr (7, [.ref (xa 6), .int 0, .ref (xa 7), .ref (xa 8), .int 0, .ref (xa 9), .int 0, .int 0, .int 0]))] U.heap ∧ va_K D vwCl (TY cy) U ∧ va_D (fun _ => True) [(hx0, .inr (11, [.ref (xa 0), .int 0, .int (-1), .ref (xa 1), .ref (xa 2), .ref (xa 3), .ref (xa 4), .ref (xa 5)])), ((xa 1), .inr (7, [.ref (xa 6), .int 0, .ref (xa 7), .ref (xa 8), .int 0, .ref (xa 9), .int 0, .int 0, .int 0]))])) (va_Qi (fun (r : Int32) (u : Unit) => r = -1) (fun (u : Unit) t => va_P D vwCl [] t.heap ∧ va_D (va_A [(hx0, .inr (11, [.ref (xa 0), .int 0, .int (-1), .ref (xa 1), .ref (xa 2), .ref (xa 3), .ref (xa 4), .ref (xa 5)])), ((xa 1), .inr (7, [.ref (xa 6), .int 0, .ref (xa 7), .ref (xa 8), .int 0, .ref (xa 9), .int 0, .int 0, .int 0]))] sz) []) (va_A [(hx0, .inr (11, [.ref (xa 0), .int 0, .int (-1), .ref (xa 1), .ref (xa 2), .ref (xa 3), .ref (xa 4), .ref (xa 5)])), ((xa 1), .inr (7, [.ref (xa 6), .int 0, .ref (xa 7), .ref (xa 8), .int 0, .ref (xa 9), .int 0, .int 0, .int 0]))] sz)) 0 0 (va_A [(hx0, .inr (11, [.ref (xa 0), .int 0, .int (-1), .ref (xa 1), .ref (xa 2), .ref (xa 3), .ref (xa 4), .ref (xa 5)])), ((xa 1), .inr (7, [.ref (xa 6), .int 0, .ref (xa 7), .ref (xa 8), .int 0, .ref (xa 9), .int 0, .int 0, .int 0]))] sz) := by
  refine Met.ofW (cc := cX11_make) (maxL := 8) (ret := (some .int)) (by decide) rfl ?_
  intro p e s m args below meth c s₁ B hml hv
  obtain ⟨rfl, hsz, hP, hK, hD0⟩ := hv
  have hx := B.exec
  have hb := B.bytes
  have hr := B.returns
  have hts := atoms_spec (ws := .code yX11_make cX11_make 8 (some .int) :: TB) B.pre
  have hT : ∀ w ∈ TB, w.before _ s = true := fun w h => hts w (List.mem_cons_of_mem _ h)
  have hown : s.vm.findClass "MakerStarts" = some m.cls := findClass_of_methodNamed B.named
  have hlocks := B.notSynchronized
  subst hsz
  have hD := hD0.self (sz := s.heap.size)
  generalize hAe : va_A [(hx0, .inr (11, [.ref (xa 0), .int 0, .int (-1), .ref (xa 1), .ref (xa 2), .ref (xa 3), .ref (xa 4), .ref (xa 5)])), ((xa 1), .inr (7, [.ref (xa 6), .int 0, .ref (xa 7), .ref (xa 8), .int 0, .ref (xa 9), .int 0, .int 0, .int 0]))] s.heap.size = A at hD  ⊢
  have hA : ∀ q : Nat, s.heap.size ≤ q → A q := fun q h => by rw [← hAe]; exact Or.inr h
  have hS : va_S A s.heap s.heap [] := va_S.rf
  have hP : va_P D vwCl [(hx0, .inr (11, [.ref (xa 0), .int 0, .int (-1), .ref (xa 1), .ref (xa 2), .ref (xa 3), .ref (xa 4), .ref (xa 5)])), ((xa 1), .inr (7, [.ref (xa 6), .int 0, .ref (xa 7), .ref (xa 8), .int 0, .ref (xa 9), .int 0, .int 0, .int 0]))] s.heap := hP
  have hl := lv_entry ([.ref hx0, .int p0, .int p1, .int p2, .int p3, .int p4]) (n := 8) (Nat.le_of_ble_eq_true rfl)
  rw [lg_entry_eq]
  generalize (lg_sl ([.ref hx0, .int p0, .int p1, .int p2, .int p3, .int p4]) ++ List.replicate (8 - (lg_sl ([.ref hx0, .int p0, .int p1, .int p2, .int p3, .int p4])).length) Slot.unset).toArray = ls at hl ⊢
  have hl : lv_has ls 8 [(0, .ref hx0), (1, .int p0), (2, .int p1), (3, .int p2), (4, .int p3), (5, .int p4)] := hl
  refine lv_aload_n hx hb dX11_make_0 rfl (lv_at hl 0 rfl) ?_
  refine va_get (D := D) (ci := 11) (v := .ref (xa 1)) (C := RX11) (T := TX11) (N := 8) hx hb hT i_TX11 hown hK hP 0 rfl rfl 3 (by decide) (hT _ t_536) (fun _ h9 => h9) rfl dX11_make_1 ?_
  refine lv_iload_n hx hb dX11_make_4 rfl (lv_at hl 1 rfl) ?_
  have hPc := hP.sub (ws' := [((xa 1), .inr (7, [.ref (xa 6), .int 0, .ref (xa 7), .ref (xa 8), .int 0, .ref (xa 9), .int 0, .int 0, .int 0]))]) [1] rfl
  have hDc := hD.sub (ws' := [((xa 1), .inr (7, [.ref (xa 6), .int 0, .ref (xa 7), .ref (xa 8), .int 0, .ref (xa 9), .int 0, .int 0, .int 0]))]) [1] (by decide) rfl
  have hFc := va_free (wc := [((xa 1), .inr (7, [.ref (xa 6), .int 0, .ref (xa 7), .ref (xa 8), .int 0, .ref (xa 9), .int 0, .int 0, .int 0]))]) hD hS hA [1] rfl
  refine va_callq (va_runV (As := [.int p0]) (rest := []) ⟨hx, hb, hml, hown, hT⟩ (c_typeAt l D cy s.heap.size (xa 1) (xa 6) (xa 7) (xa 8) (xa 9) p0) (cwV 1 hT (gTBV t_1537 t_1263 t_1264 t_139 t_1265) rfl rfl rfl (by decide +kernel) ⟨Nat.le_of_ble_eq_true rfl, Nat.le_of_ble_eq_true rfl⟩) ⟨fun a U g mk q => by obtain ⟨q0, q1, qP, qK, qD⟩ := q; exact ⟨q0, q1, qP, va_K.moved (u := U) (U := U.calling g mk a) (Vm.Alike.refl U.vm) qK, qD⟩, va_recv hK hPc (ci := 7) (q0 := 0) rfl rfl, fun U hU hW => ⟨rfl, by rw [hU], by rw [hU]; exact hPc, va_K.moved hW.alike hK, hDc.weaken (fun _ _ _ _ => trivial)⟩⟩ rfl rfl hl.1 rfl (lv_room (Nat.le_of_ble_eq_true rfl)) dX11_make_5 ⟨Nat.le_of_ble_eq_true rfl, Nat.le_of_ble_eq_true rfl⟩) hS (fun q _ h => hFc q h) hFc (fun r1 u t H1 locs ht hvm w2 hB hz1 hk1 hS => ?_)
  obtain ⟨hP1, hD1⟩ := hB
  rw [ht] at hP1
  obtain ⟨hP, hD⟩ := va_join (wr := [(hx0, .inr (11, [.ref (xa 0), .int 0, .int (-1), .ref (xa 1), .ref (xa 2), .ref (xa 3), .ref (xa 4), .ref (xa 5)]))]) (w1 := [((xa 1), .inr (7, [.ref (xa 6), .int 0, .ref (xa 7), .ref (xa 8), .int 0, .ref (xa 9), .int 0, .int 0, .int 0]))]) hP hD [1] [0] rfl rfl (by decide) (by decide) hk1 hFc hP1 hD1
  generalize H1 = H at hP hS ⊢
  have hP : va_P D vwCl [(hx0, .inr (11, [.ref (xa 0), .int 0, .int (-1), .ref (xa 1), .ref (xa 2), .ref (xa 3), .ref (xa 4), .ref (xa 5)])), ((xa 1), .inr (7, [.ref (xa 6), .int 0, .ref (xa 7), .ref (xa 8), .int 0, .ref (xa 9), .int 0, .int 0, .int 0]))] H := hP
  have hD : va_D A [(hx0, .inr (11, [.ref (xa 0), .int 0, .int (-1), .ref (xa 1), .ref (xa 2), .ref (xa 3), .ref (xa 4), .ref (xa 5)])), ((xa 1), .inr (7, [.ref (xa 6), .int 0, .ref (xa 7), .ref (xa 8), .int 0, .ref (xa 9), .int 0, .int 0, .int 0]))] := hD
  obtain rfl := w2
  refine lv_astoreN (lv' := [(6, .null), (0, .ref hx0), (1, .int p0), (2, .int p1), (3, .int p2), (4, .int p3), (5, .int p4)]) hx hb dX11_make_8 hl (by decide) rfl (fun ls hl => ?_)
  refine lv_aloadN hx hb dX11_make_10 (lv_at hl 0 rfl) ?_
  refine lv_ifnonnullN hx hb dX11_make_12 ?_
  refine lv_iconst (v := (-1)) hx hb dX11_make_15 (by decide) ?_
  have hP9 := hP.sub (ws' := []) [] rfl
  have hD9 := hD.sub (ws' := []) [] (by decide) rfl
  refine W.widen (k := 0) (n := 0) (Nat.le_of_ble_eq_true rfl) (Nat.le_of_ble_eq_true rfl) ?_
  exact W.iret (v := (-1)) hx hb hr (fun t ht hW => ⟨⟨(-1), (), rfl, rfl, by rw [ht]; exact hP9, hD9⟩, hS.F ht⟩) hS.2.2 dX11_make_16

set_option maxHeartbeats 4000000 in
set_option maxRecDepth 100000 in
theorem m_make (l : Launch) (D : va_G) (cy : Nat → ClassId) (sz : Nat) (hm : Nat) (ma : Nat → Nat) (p0 : Int32) (p1 : Int32) (p2 : Int32) (p3 : Int32) (p4 : Int32) : Met l yX12_make (.code yX12_make cX12_make 8 (some .int) :: TB) ({ frames := 0, cells := 0, slots := 0, locals := 0 }) (va_Pc [.ref hm, .int p0, .int p1, .int p2, .int p3, .int p4] (fun U => U.heap.size = sz ∧ va_P D vwCl [(hm, .inr (12, [.int 0, .ref (ma 1), .int 0, .int (-1), .ref (ma 4), .int 0, .int 0, .int 0, .long 0, .int 0, .int 0, .int 0, .int 0, .long 0, .int 0, .int 0, .int 0, .ref (ma 17), .ref (ma 18), .ref (ma 19), .ref (ma 20), .ref (ma 21), .ref (ma 22), .ref (ma 23), .ref (ma 24), .ref (ma 25), .ref (ma 26), .ref (ma 27), .ref (ma 28), .ref (ma 29), .ref (ma 30), .ref (ma 31), .ref (ma 32), .ref (ma 33), .ref (ma 34), .ref (ma 35), .ref (ma 36), .ref (ma 37), .ref (ma 38), .ref (ma 39), .ref (ma 40), .ref (ma 41), .ref (ma 42), .ref (ma 43), .ref (ma 44), .ref (ma 45), .ref (ma 46), .ref (ma 47), .ref (ma 48), .int 0, .int 0, .int 0, .int 0, .int 0, .int 0, .int 0, .int 0, .int 0, .int 0, .ref (ma 59), .ref (ma 60), .int 0, .int 0, .int 0, .int 0, .int 0, .int 0, .ref (ma 67), .ref (ma 68), .ref (ma 69), .int 0, .int (-1), .int 0, .ref (ma 73)])), ((ma 17), .inl (cy 1, 2, .inl (fun _ => 0)))] U.heap ∧ va_K D vwCl (TY cy) U ∧ va_D (fun _ => True) [(hm, .inr (12, [.int 0, .ref (ma 1), .int 0, .int (-1), .ref (ma 4), .int 0, .int 0, .int 0, .long 0, .int 0, .int 0, .int 0, .int 0, .long 0, .int 0, .int 0, .int 0, .ref (ma 17), .ref (ma 18), .ref (ma 19), .ref (ma 20), .ref (ma 21), .ref (ma 22), .ref (ma 23), .ref (ma 24), .ref (ma 25), .ref (ma 26), .ref (ma 27), .ref (ma 28), .ref (ma 29), .ref (ma 30), .ref (ma 31), .ref (ma 32), .ref (ma 33), .ref (ma 34), .ref (ma 35), .ref (ma 36), .ref (ma 37), .ref (ma 38), .ref (ma 39), .ref (ma 40), .ref (ma 41), .ref (ma 42), .ref (ma 43), .ref (ma 44), .ref (ma 45), .ref (ma 46), .ref (ma 47), .ref (ma 48), .int 0, .int 0, .int 0, .int 0, .int 0, .int 0, .int 0, .int 0, .int 0, .int 0, .ref (ma 59), .ref (ma 60), .int 0, .int 0, .int 0, .int 0, .int 0, .int 0, .ref (ma 67), .ref (ma 68), .ref (ma 69), .int 0, .int (-1), .int 0, .ref (ma 73)])), ((ma 17), .inl (cy 1, 2, .inl (fun _ => 0)))])) (va_Qi (fun (r : Int32) (u : Unit) => r = -1) (fun (u : Unit) t => va_P D vwCl [] t.heap ∧ va_D (va_A [(hm, .inr (12, [.int 0, .ref (ma 1), .int 0, .int (-1), .ref (ma 4), .int 0, .int 0, .int 0, .long 0, .int 0, .int 0, .int 0, .int 0, .long 0, .int 0, .int 0, .int 0, .ref (ma 17), .ref (ma 18), .ref (ma 19), .ref (ma 20), .ref (ma 21), .ref (ma 22), .ref (ma 23), .ref (ma 24), .ref (ma 25), .ref (ma 26), .ref (ma 27), .ref (ma 28), .ref (ma 29), .ref (ma 30), .ref (ma 31), .ref (ma 32), .ref (ma 33), .ref (ma 34), .ref (ma 35), .ref (ma 36), .ref (ma 37), .ref (ma 38), .ref (ma 39), .ref (ma 40), .ref (ma 41), .ref (ma 42), .ref (ma 43), .ref (ma 44), .ref (ma 45), .ref (ma 46), .ref (ma 47), .ref (ma 48), .int 0, .int 0, .int 0, .int 0, .int 0, .int 0, .int 0, .int 0, .int 0, .int 0, .ref (ma 59), .ref (ma 60), .int 0, .int 0, .int 0, .int 0, .int 0, .int 0, .ref (ma 67), .ref (ma 68), .ref (ma 69), .int 0, .int (-1), .int 0, .ref (ma 73)])), ((ma 17), .inl (cy 1, 2, .inl (fun _ => 0)))] sz) []) (va_A [(hm, .inr (12, [.int 0, .ref (ma 1), .int 0, .int (-1), .ref (ma 4), .int 0, .int 0, .int 0, .long 0, .int 0, .int 0, .int 0, .int 0, .long 0, .int 0, .int 0, .int 0, .ref (ma 17), .ref (ma 18), .ref (ma 19), .ref (ma 20), .ref (ma 21), .ref (ma 22), .ref (ma 23), .ref (ma 24), .ref (ma 25), .ref (ma 26), .ref (ma 27), .ref (ma 28), .ref (ma 29), .ref (ma 30), .ref (ma 31), .ref (ma 32), .ref (ma 33), .ref (ma 34), .ref (ma 35), .ref (ma 36), .ref (ma 37), .ref (ma 38), .ref (ma 39), .ref (ma 40), .ref (ma 41), .ref (ma 42), .ref (ma 43), .ref (ma 44), .ref (ma 45), .ref (ma 46), .ref (ma 47), .ref (ma 48), .int 0, .int 0, .int 0, .int 0, .int 0, .int 0, .int 0, .int 0, .int 0, .int 0, .ref (ma 59), .ref (ma 60), .int 0, .int 0, .int 0, .int 0, .int 0, .int 0, .ref (ma 67), .ref (ma 68), .ref (ma 69), .int 0, .int (-1), .int 0, .ref (ma 73)])), ((ma 17), .inl (cy 1, 2, .inl (fun _ => 0)))] sz)) 0 0 (va_A [(hm, .inr (12, [.int 0, .ref (ma 1), .int 0, .int (-1), .ref (ma 4), .int 0, .int 0, .int 0, .long 0, .int 0, .int 0, .int 0, .int 0, .long 0, .int 0, .int 0, .int 0, .ref (ma 17), .ref (ma 18), .ref (ma 19), .ref (ma 20), .ref (ma 21), .ref (ma 22), .ref (ma 23), .ref (ma 24), .ref (ma 25), .ref (ma 26), .ref (ma 27), .ref (ma 28), .ref (ma 29), .ref (ma 30), .ref (ma 31), .ref (ma 32), .ref (ma 33), .ref (ma 34), .ref (ma 35), .ref (ma 36), .ref (ma 37), .ref (ma 38), .ref (ma 39), .ref (ma 40), .ref (ma 41), .ref (ma 42), .ref (ma 43), .ref (ma 44), .ref (ma 45), .ref (ma 46), .ref (ma 47), .ref (ma 48), .int 0, .int 0, .int 0, .int 0, .int 0, .int 0, .int 0, .int 0, .int 0, .int 0, .ref (ma 59), .ref (ma 60), .int 0, .int 0, .int 0, .int 0, .int 0, .int 0, .ref (ma 67), .ref (ma 68), .ref (ma 69), .int 0, .int (-1), .int 0, .ref (ma 73)])), ((ma 17), .inl (cy 1, 2, .inl (fun _ => 0)))] sz) := by
  refine Met.ofW (cc := cX12_make) (maxL := 8) (ret := (some .int)) (by decide) rfl ?_
  intro p e s m args below meth c s₁ B hml hv
  obtain ⟨rfl, hsz, hP, hK, hD0⟩ := hv
  have hx := B.exec
  have hb := B.bytes
  have hr := B.returns
  have hts := atoms_spec (ws := .code yX12_make cX12_make 8 (some .int) :: TB) B.pre
  have hT : ∀ w ∈ TB, w.before _ s = true := fun w h => hts w (List.mem_cons_of_mem _ h)
  have hown : s.vm.findClass "MakerStartsModel" = some m.cls := findClass_of_methodNamed B.named
  have hlocks := B.notSynchronized
  subst hsz
  have hD := hD0.self (sz := s.heap.size)
  generalize hAe : va_A [(hm, .inr (12, [.int 0, .ref (ma 1), .int 0, .int (-1), .ref (ma 4), .int 0, .int 0, .int 0, .long 0, .int 0, .int 0, .int 0, .int 0, .long 0, .int 0, .int 0, .int 0, .ref (ma 17), .ref (ma 18), .ref (ma 19), .ref (ma 20), .ref (ma 21), .ref (ma 22), .ref (ma 23), .ref (ma 24), .ref (ma 25), .ref (ma 26), .ref (ma 27), .ref (ma 28), .ref (ma 29), .ref (ma 30), .ref (ma 31), .ref (ma 32), .ref (ma 33), .ref (ma 34), .ref (ma 35), .ref (ma 36), .ref (ma 37), .ref (ma 38), .ref (ma 39), .ref (ma 40), .ref (ma 41), .ref (ma 42), .ref (ma 43), .ref (ma 44), .ref (ma 45), .ref (ma 46), .ref (ma 47), .ref (ma 48), .int 0, .int 0, .int 0, .int 0, .int 0, .int 0, .int 0, .int 0, .int 0, .int 0, .ref (ma 59), .ref (ma 60), .int 0, .int 0, .int 0, .int 0, .int 0, .int 0, .ref (ma 67), .ref (ma 68), .ref (ma 69), .int 0, .int (-1), .int 0, .ref (ma 73)])), ((ma 17), .inl (cy 1, 2, .inl (fun _ => 0)))] s.heap.size = A at hD  ⊢
  have hA : ∀ q : Nat, s.heap.size ≤ q → A q := fun q h => by rw [← hAe]; exact Or.inr h
  have hS : va_S A s.heap s.heap [] := va_S.rf
  have hP : va_P D vwCl [(hm, .inr (12, [.int 0, .ref (ma 1), .int 0, .int (-1), .ref (ma 4), .int 0, .int 0, .int 0, .long 0, .int 0, .int 0, .int 0, .int 0, .long 0, .int 0, .int 0, .int 0, .ref (ma 17), .ref (ma 18), .ref (ma 19), .ref (ma 20), .ref (ma 21), .ref (ma 22), .ref (ma 23), .ref (ma 24), .ref (ma 25), .ref (ma 26), .ref (ma 27), .ref (ma 28), .ref (ma 29), .ref (ma 30), .ref (ma 31), .ref (ma 32), .ref (ma 33), .ref (ma 34), .ref (ma 35), .ref (ma 36), .ref (ma 37), .ref (ma 38), .ref (ma 39), .ref (ma 40), .ref (ma 41), .ref (ma 42), .ref (ma 43), .ref (ma 44), .ref (ma 45), .ref (ma 46), .ref (ma 47), .ref (ma 48), .int 0, .int 0, .int 0, .int 0, .int 0, .int 0, .int 0, .int 0, .int 0, .int 0, .ref (ma 59), .ref (ma 60), .int 0, .int 0, .int 0, .int 0, .int 0, .int 0, .ref (ma 67), .ref (ma 68), .ref (ma 69), .int 0, .int (-1), .int 0, .ref (ma 73)])), ((ma 17), .inl (cy 1, 2, .inl (fun _ => 0)))] s.heap := hP
  have hl := lv_entry ([.ref hm, .int p0, .int p1, .int p2, .int p3, .int p4]) (n := 8) (Nat.le_of_ble_eq_true rfl)
  rw [lg_entry_eq]
  generalize (lg_sl ([.ref hm, .int p0, .int p1, .int p2, .int p3, .int p4]) ++ List.replicate (8 - (lg_sl ([.ref hm, .int p0, .int p1, .int p2, .int p3, .int p4])).length) Slot.unset).toArray = ls at hl ⊢
  have hl : lv_has ls 8 [(0, .ref hm), (1, .int p0), (2, .int p1), (3, .int p2), (4, .int p3), (5, .int p4)] := hl
  refine lv_aload_n hx hb dX12_make_0 rfl (lv_at hl 0 rfl) ?_
  refine lv_iconst (v := 0) hx hb dX12_make_1 (by decide) ?_
  refine va_put (D := D) (ci := 12) (v := .int 0) (ty := .int) (C := RX12) (T := TX12) (N := 74) hx hb hT i_TX12 tyX12 tyX12_ok nmX12 hown hK hP hD hS 0 rfl rfl 0 (by decide) (hT _ t_1715) (fun _ h9 => h9) rfl (by decide +kernel) rfl rfl (Nat.le_of_ble_eq_true rfl) dX12_make_2 (fun H locs hP hD hS => ?_)
  have hP : va_P D vwCl [(hm, .inr (12, [.int 0, .ref (ma 1), .int 0, .int (-1), .ref (ma 4), .int 0, .int 0, .int 0, .long 0, .int 0, .int 0, .int 0, .int 0, .long 0, .int 0, .int 0, .int 0, .ref (ma 17), .ref (ma 18), .ref (ma 19), .ref (ma 20), .ref (ma 21), .ref (ma 22), .ref (ma 23), .ref (ma 24), .ref (ma 25), .ref (ma 26), .ref (ma 27), .ref (ma 28), .ref (ma 29), .ref (ma 30), .ref (ma 31), .ref (ma 32), .ref (ma 33), .ref (ma 34), .ref (ma 35), .ref (ma 36), .ref (ma 37), .ref (ma 38), .ref (ma 39), .ref (ma 40), .ref (ma 41), .ref (ma 42), .ref (ma 43), .ref (ma 44), .ref (ma 45), .ref (ma 46), .ref (ma 47), .ref (ma 48), .int 0, .int 0, .int 0, .int 0, .int 0, .int 0, .int 0, .int 0, .int 0, .int 0, .ref (ma 59), .ref (ma 60), .int 0, .int 0, .int 0, .int 0, .int 0, .int 0, .ref (ma 67), .ref (ma 68), .ref (ma 69), .int 0, .int (-1), .int 0, .ref (ma 73)])), ((ma 17), .inl (cy 1, 2, .inl (fun _ => 0)))] H := hP
  have hD : va_D A [(hm, .inr (12, [.int 0, .ref (ma 1), .int 0, .int (-1), .ref (ma 4), .int 0, .int 0, .int 0, .long 0, .int 0, .int 0, .int 0, .int 0, .long 0, .int 0, .int 0, .int 0, .ref (ma 17), .ref (ma 18), .ref (ma 19), .ref (ma 20), .ref (ma 21), .ref (ma 22), .ref (ma 23), .ref (ma 24), .ref (ma 25), .ref (ma 26), .ref (ma 27), .ref (ma 28), .ref (ma 29), .ref (ma 30), .ref (ma 31), .ref (ma 32), .ref (ma 33), .ref (ma 34), .ref (ma 35), .ref (ma 36), .ref (ma 37), .ref (ma 38), .ref (ma 39), .ref (ma 40), .ref (ma 41), .ref (ma 42), .ref (ma 43), .ref (ma 44), .ref (ma 45), .ref (ma 46), .ref (ma 47), .ref (ma 48), .int 0, .int 0, .int 0, .int 0, .int 0, .int 0, .int 0, .int 0, .int 0, .int 0, .ref (ma 59), .ref (ma 60), .int 0, .int 0, .int 0, .int 0, .int 0, .int 0, .ref (ma 67), .ref (ma 68), .ref (ma 69), .int 0, .int (-1), .int 0, .ref (ma 73)])), ((ma 17), .inl (cy 1, 2, .inl (fun _ => 0)))] := hD
  refine lv_iload_n hx hb dX12_make_5 rfl (lv_at hl 1 rfl) ?_
  refine lv_if_lt (tgt := 22) hx hb dX12_make_6 (by decide) (fun c1 => ?_) (fun c1 => ?_)
  · refine lv_iconst (v := (-1)) hx hb dX12_make_22 (by decide) ?_
    have hP9 := hP.sub (ws' := []) [] rfl
    have hD9 := hD.sub (ws' := []) [] (by decide) rfl
    refine W.widen (k := 0) (n := 0) (Nat.le_of_ble_eq_true rfl) (Nat.le_of_ble_eq_true rfl) ?_
    exact W.iret (v := (-1)) hx hb hr (fun t ht hW => ⟨⟨(-1), (), rfl, rfl, by rw [ht]; exact hP9, hD9⟩, hS.F ht⟩) hS.2.2 dX12_make_23
  · refine lv_iload_n hx hb dX12_make_9 rfl (lv_at hl 1 rfl) ?_
    refine lv_aload_n hx hb dX12_make_10 rfl (lv_at hl 0 rfl) ?_
    refine va_get (D := D) (ci := 12) (v := .ref (ma 17)) (C := RX12) (T := TX12) (N := 74) hx hb hT i_TX12 hown hK hP 0 rfl rfl 17 (by decide) (hT _ t_1732) (fun _ h9 => h9) rfl dX12_make_11 ?_
    refine lv_aload_n hx hb dX12_make_14 rfl (lv_at hl 0 rfl) ?_
    refine va_get (D := D) (ci := 12) (v := .int 0) (C := RX12) (T := TX12) (N := 74) hx hb hT i_TX12 hown hK hP 0 rfl rfl 15 (by decide) (hT _ t_1730) (fun _ h9 => h9) rfl dX12_make_15 ?_
    refine va_iald hx hb hK hP 1 1 rfl rfl (vp_in_iff.mpr (by decide)) dX12_make_18 ?_
    refine lv_topi (fun z2 e3 => ?_)
    obtain rfl : z2 = 0 := e3.trans (by first | decide | rfl)
    refine lv_icmp_lt (tgt := 24) hx hb dX12_make_19 (by decide) (fun c9 => absurd c9 c1) (fun _ => ?_)
    refine lv_iconst (v := (-1)) hx hb dX12_make_22 (by decide) ?_
    have hP9 := hP.sub (ws' := []) [] rfl
    have hD9 := hD.sub (ws' := []) [] (by decide) rfl
    refine W.widen (k := 0) (n := 0) (Nat.le_of_ble_eq_true rfl) (Nat.le_of_ble_eq_true rfl) ?_
    exact W.iret (v := (-1)) hx hb hr (fun t ht hW => ⟨⟨(-1), (), rfl, rfl, by rw [ht]; exact hP9, hD9⟩, hS.F ht⟩) hS.2.2 dX12_make_23

set_option maxHeartbeats 4000000 in
set_option maxRecDepth 100000 in
theorem c_start (l : Launch) (D : va_G) (cy : Nat → ClassId) (sz : Nat) (hx0 : Nat) (xa : Nat → Nat) (p0 : Int32) : Met l yX11_start (.code yX11_start cX11_start 3 (some .int) :: TB) ({ frames := 1, cells := 0, slots := 0, locals := 21 }) (va_Pc [.ref hx0, .int p0] (fun U => U.heap.size = sz ∧ va_P D vwCl [(hx0, .inr (11, [.ref (xa 0), .int 0, .int (-1), .ref (xa 1), .ref (xa 2), .ref (xa 3), .ref (xa 4), .ref (xa 5)])), ((xa 1), .inr (7, [.ref (xa 6), .int 0, .ref (xa 7), .ref (xa 8), .int 0, .ref (xa 9), .int 0, .int 0, .int 0]))] U.heap ∧ va_K D vwCl (TY cy) U ∧ va_D (fun _ => True) [(hx0, .inr (11, [.ref (xa 0), .int 0, .int (-1), .ref (xa 1), .ref (xa 2), .ref (xa 3), .ref (xa 4), .ref (xa 5)])), ((xa 1), .inr (7, [.ref (xa 6), .int 0, .ref (xa 7), .ref (xa 8), .int 0, .ref (xa 9), .int 0, .int 0, .int 0]))])) (va_Qi (fun (r : Int32) (u : Unit) => r = -1) (fun (u : Unit) t => va_P D vwCl [] t.heap ∧ va_D (va_A [(hx0, .inr (11, [.ref (xa 0), .int 0, .int (-1), .ref (xa 1), .ref (xa 2), .ref (xa 3), .ref (xa 4), .ref (xa 5)])), ((xa 1), .inr (7, [.ref (xa 6), .int 0, .ref (xa 7), .ref (xa 8), .int 0, .ref (xa 9), .int 0, .int 0, .int 0]))] sz) []) (va_A [(hx0, .inr (11, [.ref (xa 0), .int 0, .int (-1), .ref (xa 1), .ref (xa 2), .ref (xa 3), .ref (xa 4), .ref (xa 5)])), ((xa 1), .inr (7, [.ref (xa 6), .int 0, .ref (xa 7), .ref (xa 8), .int 0, .ref (xa 9), .int 0, .int 0, .int 0]))] sz)) 0 0 (va_A [(hx0, .inr (11, [.ref (xa 0), .int 0, .int (-1), .ref (xa 1), .ref (xa 2), .ref (xa 3), .ref (xa 4), .ref (xa 5)])), ((xa 1), .inr (7, [.ref (xa 6), .int 0, .ref (xa 7), .ref (xa 8), .int 0, .ref (xa 9), .int 0, .int 0, .int 0]))] sz) := by
  refine Met.ofW (cc := cX11_start) (maxL := 3) (ret := (some .int)) (by decide) rfl ?_
  intro p e s m args below meth c s₁ B hml hv
  obtain ⟨rfl, hsz, hP, hK, hD0⟩ := hv
  have hx := B.exec
  have hb := B.bytes
  have hr := B.returns
  have hts := atoms_spec (ws := .code yX11_start cX11_start 3 (some .int) :: TB) B.pre
  have hT : ∀ w ∈ TB, w.before _ s = true := fun w h => hts w (List.mem_cons_of_mem _ h)
  have hown : s.vm.findClass "MakerStarts" = some m.cls := findClass_of_methodNamed B.named
  have hlocks := B.notSynchronized
  subst hsz
  have hD := hD0.self (sz := s.heap.size)
  generalize hAe : va_A [(hx0, .inr (11, [.ref (xa 0), .int 0, .int (-1), .ref (xa 1), .ref (xa 2), .ref (xa 3), .ref (xa 4), .ref (xa 5)])), ((xa 1), .inr (7, [.ref (xa 6), .int 0, .ref (xa 7), .ref (xa 8), .int 0, .ref (xa 9), .int 0, .int 0, .int 0]))] s.heap.size = A at hD  ⊢
  have hA : ∀ q : Nat, s.heap.size ≤ q → A q := fun q h => by rw [← hAe]; exact Or.inr h
  have hS : va_S A s.heap s.heap [] := va_S.rf
  have hP : va_P D vwCl [(hx0, .inr (11, [.ref (xa 0), .int 0, .int (-1), .ref (xa 1), .ref (xa 2), .ref (xa 3), .ref (xa 4), .ref (xa 5)])), ((xa 1), .inr (7, [.ref (xa 6), .int 0, .ref (xa 7), .ref (xa 8), .int 0, .ref (xa 9), .int 0, .int 0, .int 0]))] s.heap := hP
  have hl := lv_entry ([.ref hx0, .int p0]) (n := 3) (Nat.le_of_ble_eq_true rfl)
  rw [lg_entry_eq]
  generalize (lg_sl ([.ref hx0, .int p0]) ++ List.replicate (3 - (lg_sl ([.ref hx0, .int p0])).length) Slot.unset).toArray = ls at hl ⊢
  have hl : lv_has ls 3 [(0, .ref hx0), (1, .int p0)] := hl
  refine lv_aload_n hx hb dX11_start_0 rfl (lv_at hl 0 rfl) ?_
  refine va_get (D := D) (ci := 11) (v := .ref (xa 1)) (C := RX11) (T := TX11) (N := 8) hx hb hT i_TX11 hown hK hP 0 rfl rfl 3 (by decide) (hT _ t_536) (fun _ h9 => h9) rfl dX11_start_1 ?_
  refine lv_iload_n hx hb dX11_start_4 rfl (lv_at hl 1 rfl) ?_
  have hPc := hP.sub (ws' := [((xa 1), .inr (7, [.ref (xa 6), .int 0, .ref (xa 7), .ref (xa 8), .int 0, .ref (xa 9), .int 0, .int 0, .int 0]))]) [1] rfl
  have hDc := hD.sub (ws' := [((xa 1), .inr (7, [.ref (xa 6), .int 0, .ref (xa 7), .ref (xa 8), .int 0, .ref (xa 9), .int 0, .int 0, .int 0]))]) [1] (by decide) rfl
  have hFc := va_free (wc := [((xa 1), .inr (7, [.ref (xa 6), .int 0, .ref (xa 7), .ref (xa 8), .int 0, .ref (xa 9), .int 0, .int 0, .int 0]))]) hD hS hA [1] rfl
  refine va_callq (va_runV (As := [.int p0]) (rest := []) ⟨hx, hb, hml, hown, hT⟩ (c_typeAt l D cy s.heap.size (xa 1) (xa 6) (xa 7) (xa 8) (xa 9) p0) (cwV 1 hT (gTBV t_1537 t_1263 t_1264 t_139 t_1265) rfl rfl rfl (by decide +kernel) ⟨Nat.le_of_ble_eq_true rfl, Nat.le_of_ble_eq_true rfl⟩) ⟨fun a U g mk q => by obtain ⟨q0, q1, qP, qK, qD⟩ := q; exact ⟨q0, q1, qP, va_K.moved (u := U) (U := U.calling g mk a) (Vm.Alike.refl U.vm) qK, qD⟩, va_recv hK hPc (ci := 7) (q0 := 0) rfl rfl, fun U hU hW => ⟨rfl, by rw [hU], by rw [hU]; exact hPc, va_K.moved hW.alike hK, hDc.weaken (fun _ _ _ _ => trivial)⟩⟩ rfl rfl hl.1 rfl (lv_room (Nat.le_of_ble_eq_true rfl)) dX11_start_5 ⟨Nat.le_of_ble_eq_true rfl, Nat.le_of_ble_eq_true rfl⟩) hS (fun q _ h => hFc q h) hFc (fun r1 u t H1 locs ht hvm w2 hB hz1 hk1 hS => ?_)
  obtain ⟨hP1, hD1⟩ := hB
  rw [ht] at hP1
  obtain ⟨hP, hD⟩ := va_join (wr := [(hx0, .inr (11, [.ref (xa 0), .int 0, .int (-1), .ref (xa 1), .ref (xa 2), .ref (xa 3), .ref (xa 4), .ref (xa 5)]))]) (w1 := [((xa 1), .inr (7, [.ref (xa 6), .int 0, .ref (xa 7), .ref (xa 8), .int 0, .ref (xa 9), .int 0, .int 0, .int 0]))]) hP hD [1] [0] rfl rfl (by decide) (by decide) hk1 hFc hP1 hD1
  generalize H1 = H at hP hS ⊢
  have hP : va_P D vwCl [(hx0, .inr (11, [.ref (xa 0), .int 0, .int (-1), .ref (xa 1), .ref (xa 2), .ref (xa 3), .ref (xa 4), .ref (xa 5)])), ((xa 1), .inr (7, [.ref (xa 6), .int 0, .ref (xa 7), .ref (xa 8), .int 0, .ref (xa 9), .int 0, .int 0, .int 0]))] H := hP
  have hD : va_D A [(hx0, .inr (11, [.ref (xa 0), .int 0, .int (-1), .ref (xa 1), .ref (xa 2), .ref (xa 3), .ref (xa 4), .ref (xa 5)])), ((xa 1), .inr (7, [.ref (xa 6), .int 0, .ref (xa 7), .ref (xa 8), .int 0, .ref (xa 9), .int 0, .int 0, .int 0]))] := hD
  obtain rfl := w2
  refine lv_astore_nN (lv' := [(2, .null), (0, .ref hx0), (1, .int p0)]) hx hb dX11_start_8 rfl hl (by decide) rfl (fun ls hl => ?_)
  refine lv_aload_nN hx hb dX11_start_9 rfl (lv_at hl 0 rfl) ?_
  refine lv_ifnonnullN hx hb dX11_start_10 ?_
  refine lv_iconst (v := (-1)) hx hb dX11_start_13 (by decide) ?_
  refine lv_goto (tgt := 25) hx hb dX11_start_14 (by decide) ?_
  have hP9 := hP.sub (ws' := []) [] rfl
  have hD9 := hD.sub (ws' := []) [] (by decide) rfl
  refine W.widen (k := 0) (n := 0) (Nat.le_of_ble_eq_true rfl) (Nat.le_of_ble_eq_true rfl) ?_
  exact W.iret (v := (-1)) hx hb hr (fun t ht hW => ⟨⟨(-1), (), rfl, rfl, by rw [ht]; exact hP9, hD9⟩, hS.F ht⟩) hS.2.2 dX11_start_25

set_option maxHeartbeats 4000000 in
set_option maxRecDepth 100000 in
theorem m_start (l : Launch) (D : va_G) (cy : Nat → ClassId) (sz : Nat) (hm : Nat) (ma : Nat → Nat) (p0 : Int32) : Met l yX12_start (.code yX12_start cX12_start 2 (some .int) :: TB) ({ frames := 0, cells := 0, slots := 0, locals := 0 }) (va_Pc [.ref hm, .int p0] (fun U => U.heap.size = sz ∧ va_P D vwCl [(hm, .inr (12, [.int 0, .ref (ma 1), .int 0, .int (-1), .ref (ma 4), .int 0, .int 0, .int 0, .long 0, .int 0, .int 0, .int 0, .int 0, .long 0, .int 0, .int 0, .int 0, .ref (ma 17), .ref (ma 18), .ref (ma 19), .ref (ma 20), .ref (ma 21), .ref (ma 22), .ref (ma 23), .ref (ma 24), .ref (ma 25), .ref (ma 26), .ref (ma 27), .ref (ma 28), .ref (ma 29), .ref (ma 30), .ref (ma 31), .ref (ma 32), .ref (ma 33), .ref (ma 34), .ref (ma 35), .ref (ma 36), .ref (ma 37), .ref (ma 38), .ref (ma 39), .ref (ma 40), .ref (ma 41), .ref (ma 42), .ref (ma 43), .ref (ma 44), .ref (ma 45), .ref (ma 46), .ref (ma 47), .ref (ma 48), .int 0, .int 0, .int 0, .int 0, .int 0, .int 0, .int 0, .int 0, .int 0, .int 0, .ref (ma 59), .ref (ma 60), .int 0, .int 0, .int 0, .int 0, .int 0, .int 0, .ref (ma 67), .ref (ma 68), .ref (ma 69), .int 0, .int (-1), .int 0, .ref (ma 73)])), ((ma 17), .inl (cy 1, 2, .inl (fun _ => 0)))] U.heap ∧ va_K D vwCl (TY cy) U ∧ va_D (fun _ => True) [(hm, .inr (12, [.int 0, .ref (ma 1), .int 0, .int (-1), .ref (ma 4), .int 0, .int 0, .int 0, .long 0, .int 0, .int 0, .int 0, .int 0, .long 0, .int 0, .int 0, .int 0, .ref (ma 17), .ref (ma 18), .ref (ma 19), .ref (ma 20), .ref (ma 21), .ref (ma 22), .ref (ma 23), .ref (ma 24), .ref (ma 25), .ref (ma 26), .ref (ma 27), .ref (ma 28), .ref (ma 29), .ref (ma 30), .ref (ma 31), .ref (ma 32), .ref (ma 33), .ref (ma 34), .ref (ma 35), .ref (ma 36), .ref (ma 37), .ref (ma 38), .ref (ma 39), .ref (ma 40), .ref (ma 41), .ref (ma 42), .ref (ma 43), .ref (ma 44), .ref (ma 45), .ref (ma 46), .ref (ma 47), .ref (ma 48), .int 0, .int 0, .int 0, .int 0, .int 0, .int 0, .int 0, .int 0, .int 0, .int 0, .ref (ma 59), .ref (ma 60), .int 0, .int 0, .int 0, .int 0, .int 0, .int 0, .ref (ma 67), .ref (ma 68), .ref (ma 69), .int 0, .int (-1), .int 0, .ref (ma 73)])), ((ma 17), .inl (cy 1, 2, .inl (fun _ => 0)))])) (va_Qi (fun (r : Int32) (u : Unit) => r = -1) (fun (u : Unit) t => va_P D vwCl [] t.heap ∧ va_D (va_A [(hm, .inr (12, [.int 0, .ref (ma 1), .int 0, .int (-1), .ref (ma 4), .int 0, .int 0, .int 0, .long 0, .int 0, .int 0, .int 0, .int 0, .long 0, .int 0, .int 0, .int 0, .ref (ma 17), .ref (ma 18), .ref (ma 19), .ref (ma 20), .ref (ma 21), .ref (ma 22), .ref (ma 23), .ref (ma 24), .ref (ma 25), .ref (ma 26), .ref (ma 27), .ref (ma 28), .ref (ma 29), .ref (ma 30), .ref (ma 31), .ref (ma 32), .ref (ma 33), .ref (ma 34), .ref (ma 35), .ref (ma 36), .ref (ma 37), .ref (ma 38), .ref (ma 39), .ref (ma 40), .ref (ma 41), .ref (ma 42), .ref (ma 43), .ref (ma 44), .ref (ma 45), .ref (ma 46), .ref (ma 47), .ref (ma 48), .int 0, .int 0, .int 0, .int 0, .int 0, .int 0, .int 0, .int 0, .int 0, .int 0, .ref (ma 59), .ref (ma 60), .int 0, .int 0, .int 0, .int 0, .int 0, .int 0, .ref (ma 67), .ref (ma 68), .ref (ma 69), .int 0, .int (-1), .int 0, .ref (ma 73)])), ((ma 17), .inl (cy 1, 2, .inl (fun _ => 0)))] sz) []) (va_A [(hm, .inr (12, [.int 0, .ref (ma 1), .int 0, .int (-1), .ref (ma 4), .int 0, .int 0, .int 0, .long 0, .int 0, .int 0, .int 0, .int 0, .long 0, .int 0, .int 0, .int 0, .ref (ma 17), .ref (ma 18), .ref (ma 19), .ref (ma 20), .ref (ma 21), .ref (ma 22), .ref (ma 23), .ref (ma 24), .ref (ma 25), .ref (ma 26), .ref (ma 27), .ref (ma 28), .ref (ma 29), .ref (ma 30), .ref (ma 31), .ref (ma 32), .ref (ma 33), .ref (ma 34), .ref (ma 35), .ref (ma 36), .ref (ma 37), .ref (ma 38), .ref (ma 39), .ref (ma 40), .ref (ma 41), .ref (ma 42), .ref (ma 43), .ref (ma 44), .ref (ma 45), .ref (ma 46), .ref (ma 47), .ref (ma 48), .int 0, .int 0, .int 0, .int 0, .int 0, .int 0, .int 0, .int 0, .int 0, .int 0, .ref (ma 59), .ref (ma 60), .int 0, .int 0, .int 0, .int 0, .int 0, .int 0, .ref (ma 67), .ref (ma 68), .ref (ma 69), .int 0, .int (-1), .int 0, .ref (ma 73)])), ((ma 17), .inl (cy 1, 2, .inl (fun _ => 0)))] sz)) 0 0 (va_A [(hm, .inr (12, [.int 0, .ref (ma 1), .int 0, .int (-1), .ref (ma 4), .int 0, .int 0, .int 0, .long 0, .int 0, .int 0, .int 0, .int 0, .long 0, .int 0, .int 0, .int 0, .ref (ma 17), .ref (ma 18), .ref (ma 19), .ref (ma 20), .ref (ma 21), .ref (ma 22), .ref (ma 23), .ref (ma 24), .ref (ma 25), .ref (ma 26), .ref (ma 27), .ref (ma 28), .ref (ma 29), .ref (ma 30), .ref (ma 31), .ref (ma 32), .ref (ma 33), .ref (ma 34), .ref (ma 35), .ref (ma 36), .ref (ma 37), .ref (ma 38), .ref (ma 39), .ref (ma 40), .ref (ma 41), .ref (ma 42), .ref (ma 43), .ref (ma 44), .ref (ma 45), .ref (ma 46), .ref (ma 47), .ref (ma 48), .int 0, .int 0, .int 0, .int 0, .int 0, .int 0, .int 0, .int 0, .int 0, .int 0, .ref (ma 59), .ref (ma 60), .int 0, .int 0, .int 0, .int 0, .int 0, .int 0, .ref (ma 67), .ref (ma 68), .ref (ma 69), .int 0, .int (-1), .int 0, .ref (ma 73)])), ((ma 17), .inl (cy 1, 2, .inl (fun _ => 0)))] sz) := by
  refine Met.ofW (cc := cX12_start) (maxL := 2) (ret := (some .int)) (by decide) rfl ?_
  intro p e s m args below meth c s₁ B hml hv
  obtain ⟨rfl, hsz, hP, hK, hD0⟩ := hv
  have hx := B.exec
  have hb := B.bytes
  have hr := B.returns
  have hts := atoms_spec (ws := .code yX12_start cX12_start 2 (some .int) :: TB) B.pre
  have hT : ∀ w ∈ TB, w.before _ s = true := fun w h => hts w (List.mem_cons_of_mem _ h)
  have hown : s.vm.findClass "MakerStartsModel" = some m.cls := findClass_of_methodNamed B.named
  have hlocks := B.notSynchronized
  subst hsz
  have hD := hD0.self (sz := s.heap.size)
  generalize hAe : va_A [(hm, .inr (12, [.int 0, .ref (ma 1), .int 0, .int (-1), .ref (ma 4), .int 0, .int 0, .int 0, .long 0, .int 0, .int 0, .int 0, .int 0, .long 0, .int 0, .int 0, .int 0, .ref (ma 17), .ref (ma 18), .ref (ma 19), .ref (ma 20), .ref (ma 21), .ref (ma 22), .ref (ma 23), .ref (ma 24), .ref (ma 25), .ref (ma 26), .ref (ma 27), .ref (ma 28), .ref (ma 29), .ref (ma 30), .ref (ma 31), .ref (ma 32), .ref (ma 33), .ref (ma 34), .ref (ma 35), .ref (ma 36), .ref (ma 37), .ref (ma 38), .ref (ma 39), .ref (ma 40), .ref (ma 41), .ref (ma 42), .ref (ma 43), .ref (ma 44), .ref (ma 45), .ref (ma 46), .ref (ma 47), .ref (ma 48), .int 0, .int 0, .int 0, .int 0, .int 0, .int 0, .int 0, .int 0, .int 0, .int 0, .ref (ma 59), .ref (ma 60), .int 0, .int 0, .int 0, .int 0, .int 0, .int 0, .ref (ma 67), .ref (ma 68), .ref (ma 69), .int 0, .int (-1), .int 0, .ref (ma 73)])), ((ma 17), .inl (cy 1, 2, .inl (fun _ => 0)))] s.heap.size = A at hD  ⊢
  have hA : ∀ q : Nat, s.heap.size ≤ q → A q := fun q h => by rw [← hAe]; exact Or.inr h
  have hS : va_S A s.heap s.heap [] := va_S.rf
  have hP : va_P D vwCl [(hm, .inr (12, [.int 0, .ref (ma 1), .int 0, .int (-1), .ref (ma 4), .int 0, .int 0, .int 0, .long 0, .int 0, .int 0, .int 0, .int 0, .long 0, .int 0, .int 0, .int 0, .ref (ma 17), .ref (ma 18), .ref (ma 19), .ref (ma 20), .ref (ma 21), .ref (ma 22), .ref (ma 23), .ref (ma 24), .ref (ma 25), .ref (ma 26), .ref (ma 27), .ref (ma 28), .ref (ma 29), .ref (ma 30), .ref (ma 31), .ref (ma 32), .ref (ma 33), .ref (ma 34), .ref (ma 35), .ref (ma 36), .ref (ma 37), .ref (ma 38), .ref (ma 39), .ref (ma 40), .ref (ma 41), .ref (ma 42), .ref (ma 43), .ref (ma 44), .ref (ma 45), .ref (ma 46), .ref (ma 47), .ref (ma 48), .int 0, .int 0, .int 0, .int 0, .int 0, .int 0, .int 0, .int 0, .int 0, .int 0, .ref (ma 59), .ref (ma 60), .int 0, .int 0, .int 0, .int 0, .int 0, .int 0, .ref (ma 67), .ref (ma 68), .ref (ma 69), .int 0, .int (-1), .int 0, .ref (ma 73)])), ((ma 17), .inl (cy 1, 2, .inl (fun _ => 0)))] s.heap := hP
  have hl := lv_entry ([.ref hm, .int p0]) (n := 2) (Nat.le_of_ble_eq_true rfl)
  rw [lg_entry_eq]
  generalize (lg_sl ([.ref hm, .int p0]) ++ List.replicate (2 - (lg_sl ([.ref hm, .int p0])).length) Slot.unset).toArray = ls at hl ⊢
  have hl : lv_has ls 2 [(0, .ref hm), (1, .int p0)] := hl
  refine lv_aload_n hx hb dX12_start_0 rfl (lv_at hl 0 rfl) ?_
  refine lv_iconst (v := 0) hx hb dX12_start_1 (by decide) ?_
  refine va_put (D := D) (ci := 12) (v := .int 0) (ty := .int) (C := RX12) (T := TX12) (N := 74) hx hb hT i_TX12 tyX12 tyX12_ok nmX12 hown hK hP hD hS 0 rfl rfl 0 (by decide) (hT _ t_1715) (fun _ h9 => h9) rfl (by decide +kernel) rfl rfl (Nat.le_of_ble_eq_true rfl) dX12_start_2 (fun H locs hP hD hS => ?_)
  have hP : va_P D vwCl [(hm, .inr (12, [.int 0, .ref (ma 1), .int 0, .int (-1), .ref (ma 4), .int 0, .int 0, .int 0, .long 0, .int 0, .int 0, .int 0, .int 0, .long 0, .int 0, .int 0, .int 0, .ref (ma 17), .ref (ma 18), .ref (ma 19), .ref (ma 20), .ref (ma 21), .ref (ma 22), .ref (ma 23), .ref (ma 24), .ref (ma 25), .ref (ma 26), .ref (ma 27), .ref (ma 28), .ref (ma 29), .ref (ma 30), .ref (ma 31), .ref (ma 32), .ref (ma 33), .ref (ma 34), .ref (ma 35), .ref (ma 36), .ref (ma 37), .ref (ma 38), .ref (ma 39), .ref (ma 40), .ref (ma 41), .ref (ma 42), .ref (ma 43), .ref (ma 44), .ref (ma 45), .ref (ma 46), .ref (ma 47), .ref (ma 48), .int 0, .int 0, .int 0, .int 0, .int 0, .int 0, .int 0, .int 0, .int 0, .int 0, .ref (ma 59), .ref (ma 60), .int 0, .int 0, .int 0, .int 0, .int 0, .int 0, .ref (ma 67), .ref (ma 68), .ref (ma 69), .int 0, .int (-1), .int 0, .ref (ma 73)])), ((ma 17), .inl (cy 1, 2, .inl (fun _ => 0)))] H := hP
  have hD : va_D A [(hm, .inr (12, [.int 0, .ref (ma 1), .int 0, .int (-1), .ref (ma 4), .int 0, .int 0, .int 0, .long 0, .int 0, .int 0, .int 0, .int 0, .long 0, .int 0, .int 0, .int 0, .ref (ma 17), .ref (ma 18), .ref (ma 19), .ref (ma 20), .ref (ma 21), .ref (ma 22), .ref (ma 23), .ref (ma 24), .ref (ma 25), .ref (ma 26), .ref (ma 27), .ref (ma 28), .ref (ma 29), .ref (ma 30), .ref (ma 31), .ref (ma 32), .ref (ma 33), .ref (ma 34), .ref (ma 35), .ref (ma 36), .ref (ma 37), .ref (ma 38), .ref (ma 39), .ref (ma 40), .ref (ma 41), .ref (ma 42), .ref (ma 43), .ref (ma 44), .ref (ma 45), .ref (ma 46), .ref (ma 47), .ref (ma 48), .int 0, .int 0, .int 0, .int 0, .int 0, .int 0, .int 0, .int 0, .int 0, .int 0, .ref (ma 59), .ref (ma 60), .int 0, .int 0, .int 0, .int 0, .int 0, .int 0, .ref (ma 67), .ref (ma 68), .ref (ma 69), .int 0, .int (-1), .int 0, .ref (ma 73)])), ((ma 17), .inl (cy 1, 2, .inl (fun _ => 0)))] := hD
  refine lv_iload_n hx hb dX12_start_5 rfl (lv_at hl 1 rfl) ?_
  refine lv_if_lt (tgt := 22) hx hb dX12_start_6 (by decide) (fun c1 => ?_) (fun c1 => ?_)
  · refine lv_iconst (v := (-1)) hx hb dX12_start_22 (by decide) ?_
    have hP9 := hP.sub (ws' := []) [] rfl
    have hD9 := hD.sub (ws' := []) [] (by decide) rfl
    refine W.widen (k := 0) (n := 0) (Nat.le_of_ble_eq_true rfl) (Nat.le_of_ble_eq_true rfl) ?_
    exact W.iret (v := (-1)) hx hb hr (fun t ht hW => ⟨⟨(-1), (), rfl, rfl, by rw [ht]; exact hP9, hD9⟩, hS.F ht⟩) hS.2.2 dX12_start_23
  · refine lv_iload_n hx hb dX12_start_9 rfl (lv_at hl 1 rfl) ?_
    refine lv_aload_n hx hb dX12_start_10 rfl (lv_at hl 0 rfl) ?_
    refine va_get (D := D) (ci := 12) (v := .ref (ma 17)) (C := RX12) (T := TX12) (N := 74) hx hb hT i_TX12 hown hK hP 0 rfl rfl 17 (by decide) (hT _ t_1732) (fun _ h9 => h9) rfl dX12_start_11 ?_
    refine lv_aload_n hx hb dX12_start_14 rfl (lv_at hl 0 rfl) ?_
    refine va_get (D := D) (ci := 12) (v := .int 0) (C := RX12) (T := TX12) (N := 74) hx hb hT i_TX12 hown hK hP 0 rfl rfl 15 (by decide) (hT _ t_1730) (fun _ h9 => h9) rfl dX12_start_15 ?_
    refine va_iald hx hb hK hP 1 1 rfl rfl (vp_in_iff.mpr (by decide)) dX12_start_18 ?_
    refine lv_topi (fun z2 e3 => ?_)
    obtain rfl : z2 = 0 := e3.trans (by first | decide | rfl)
    refine lv_icmp_lt (tgt := 24) hx hb dX12_start_19 (by decide) (fun c9 => absurd c9 c1) (fun _ => ?_)
    refine lv_iconst (v := (-1)) hx hb dX12_start_22 (by decide) ?_
    have hP9 := hP.sub (ws' := []) [] rfl
    have hD9 := hD.sub (ws' := []) [] (by decide) rfl
    refine W.widen (k := 0) (n := 0) (Nat.le_of_ble_eq_true rfl) (Nat.le_of_ble_eq_true rfl) ?_
    exact W.iret (v := (-1)) hx hb hr (fun t ht hW => ⟨⟨(-1), (), rfl, rfl, by rw [ht]; exact hP9, hD9⟩, hS.F ht⟩) hS.2.2 dX12_start_23

set_option maxHeartbeats 4000000 in
set_option maxRecDepth 100000 in
theorem c_fails (l : Launch) (D : va_G) (cy : Nat → ClassId) (sz : Nat) (hx0 : Nat) (xa : Nat → Nat) (p0 : Int32) (p1 : Int32) : Met l yX11_fails (.code yX11_fails cX11_fails 5 (some .int) :: TB) ({ frames := 1, cells := 0, slots := 0, locals := 21 }) (va_Pc [.ref hx0, .int p0, .int p1] (fun U => U.heap.size = sz ∧ va_P D vwCl [(hx0, .inr (11, [.ref (xa 0), .int 0, .int (-1), .ref (xa 1), .ref (xa 2), .ref (xa 3), .ref (xa 4), .ref (xa 5)])), ((xa 1), .inr (7, [.ref (xa 6), .int 0, .ref (xa 7), .ref (xa 8), .int 0, .ref (xa 9), .int 0, .int 0, .int 0]))] U.heap ∧ va_K D vwCl (TY cy) U ∧ va_D (fun _ => True) [(hx0, .inr (11, [.ref (xa 0), .int 0, .int (-1), .ref (xa 1), .ref (xa 2), .ref (xa 3), .ref (xa 4), .ref (xa 5)])), ((xa 1), .inr (7, [.ref (xa 6), .int 0, .ref (xa 7), .ref (xa 8), .int 0, .ref (xa 9), .int 0, .int 0, .int 0]))])) (va_Qi (fun (r : Int32) (u : Unit) => r = -1) (fun (u : Unit) t => va_P D vwCl [] t.heap ∧ va_D (va_A [(hx0, .inr (11, [.ref (xa 0), .int 0, .int (-1), .ref (xa 1), .ref (xa 2), .ref (xa 3), .ref (xa 4), .ref (xa 5)])), ((xa 1), .inr (7, [.ref (xa 6), .int 0, .ref (xa 7), .ref (xa 8), .int 0, .ref (xa 9), .int 0, .int 0, .int 0]))] sz) []) (va_A [(hx0, .inr (11, [.ref (xa 0), .int 0, .int (-1), .ref (xa 1), .ref (xa 2), .ref (xa 3), .ref (xa 4), .ref (xa 5)])), ((xa 1), .inr (7, [.ref (xa 6), .int 0, .ref (xa 7), .ref (xa 8), .int 0, .ref (xa 9), .int 0, .int 0, .int 0]))] sz)) 0 0 (va_A [(hx0, .inr (11, [.ref (xa 0), .int 0, .int (-1), .ref (xa 1), .ref (xa 2), .ref (xa 3), .ref (xa 4), .ref (xa 5)])), ((xa 1), .inr (7, [.ref (xa 6), .int 0, .ref (xa 7), .ref (xa 8), .int 0, .ref (xa 9), .int 0, .int 0, .int 0]))] sz) := by
  refine Met.ofW (cc := cX11_fails) (maxL := 5) (ret := (some .int)) (by decide) rfl ?_
  intro p e s m args below meth c s₁ B hml hv
  obtain ⟨rfl, hsz, hP, hK, hD0⟩ := hv
  have hx := B.exec
  have hb := B.bytes
  have hr := B.returns
  have hts := atoms_spec (ws := .code yX11_fails cX11_fails 5 (some .int) :: TB) B.pre
  have hT : ∀ w ∈ TB, w.before _ s = true := fun w h => hts w (List.mem_cons_of_mem _ h)
  have hown : s.vm.findClass "MakerStarts" = some m.cls := findClass_of_methodNamed B.named
  have hlocks := B.notSynchronized
  subst hsz
  have hD := hD0.self (sz := s.heap.size)
  generalize hAe : va_A [(hx0, .inr (11, [.ref (xa 0), .int 0, .int (-1), .ref (xa 1), .ref (xa 2), .ref (xa 3), .ref (xa 4), .ref (xa 5)])), ((xa 1), .inr (7, [.ref (xa 6), .int 0, .ref (xa 7), .ref (xa 8), .int 0, .ref (xa 9), .int 0, .int 0, .int 0]))] s.heap.size = A at hD  ⊢
  have hA : ∀ q : Nat, s.heap.size ≤ q → A q := fun q h => by rw [← hAe]; exact Or.inr h
  have hS : va_S A s.heap s.heap [] := va_S.rf
  have hP : va_P D vwCl [(hx0, .inr (11, [.ref (xa 0), .int 0, .int (-1), .ref (xa 1), .ref (xa 2), .ref (xa 3), .ref (xa 4), .ref (xa 5)])), ((xa 1), .inr (7, [.ref (xa 6), .int 0, .ref (xa 7), .ref (xa 8), .int 0, .ref (xa 9), .int 0, .int 0, .int 0]))] s.heap := hP
  have hl := lv_entry ([.ref hx0, .int p0, .int p1]) (n := 5) (Nat.le_of_ble_eq_true rfl)
  rw [lg_entry_eq]
  generalize (lg_sl ([.ref hx0, .int p0, .int p1]) ++ List.replicate (5 - (lg_sl ([.ref hx0, .int p0, .int p1])).length) Slot.unset).toArray = ls at hl ⊢
  have hl : lv_has ls 5 [(0, .ref hx0), (1, .int p0), (2, .int p1)] := hl
  refine lv_aload_n hx hb dX11_fails_0 rfl (lv_at hl 0 rfl) ?_
  refine va_get (D := D) (ci := 11) (v := .ref (xa 1)) (C := RX11) (T := TX11) (N := 8) hx hb hT i_TX11 hown hK hP 0 rfl rfl 3 (by decide) (hT _ t_536) (fun _ h9 => h9) rfl dX11_fails_1 ?_
  refine lv_iload_n hx hb dX11_fails_4 rfl (lv_at hl 1 rfl) ?_
  have hPc := hP.sub (ws' := [((xa 1), .inr (7, [.ref (xa 6), .int 0, .ref (xa 7), .ref (xa 8), .int 0, .ref (xa 9), .int 0, .int 0, .int 0]))]) [1] rfl
  have hDc := hD.sub (ws' := [((xa 1), .inr (7, [.ref (xa 6), .int 0, .ref (xa 7), .ref (xa 8), .int 0, .ref (xa 9), .int 0, .int 0, .int 0]))]) [1] (by decide) rfl
  have hFc := va_free (wc := [((xa 1), .inr (7, [.ref (xa 6), .int 0, .ref (xa 7), .ref (xa 8), .int 0, .ref (xa 9), .int 0, .int 0, .int 0]))]) hD hS hA [1] rfl
  refine va_callq (va_runV (As := [.int p0]) (rest := []) ⟨hx, hb, hml, hown, hT⟩ (c_typeAt l D cy s.heap.size (xa 1) (xa 6) (xa 7) (xa 8) (xa 9) p0) (cwV 1 hT (gTBV t_1537 t_1263 t_1264 t_139 t_1265) rfl rfl rfl (by decide +kernel) ⟨Nat.le_of_ble_eq_true rfl, Nat.le_of_ble_eq_true rfl⟩) ⟨fun a U g mk q => by obtain ⟨q0, q1, qP, qK, qD⟩ := q; exact ⟨q0, q1, qP, va_K.moved (u := U) (U := U.calling g mk a) (Vm.Alike.refl U.vm) qK, qD⟩, va_recv hK hPc (ci := 7) (q0 := 0) rfl rfl, fun U hU hW => ⟨rfl, by rw [hU], by rw [hU]; exact hPc, va_K.moved hW.alike hK, hDc.weaken (fun _ _ _ _ => trivial)⟩⟩ rfl rfl hl.1 rfl (lv_room (Nat.le_of_ble_eq_true rfl)) dX11_fails_5 ⟨Nat.le_of_ble_eq_true rfl, Nat.le_of_ble_eq_true rfl⟩) hS (fun q _ h => hFc q h) hFc (fun r1 u t H1 locs ht hvm w2 hB hz1 hk1 hS => ?_)
  obtain ⟨hP1, hD1⟩ := hB
  rw [ht] at hP1
  obtain ⟨hP, hD⟩ := va_join (wr := [(hx0, .inr (11, [.ref (xa 0), .int 0, .int (-1), .ref (xa 1), .ref (xa 2), .ref (xa 3), .ref (xa 4), .ref (xa 5)]))]) (w1 := [((xa 1), .inr (7, [.ref (xa 6), .int 0, .ref (xa 7), .ref (xa 8), .int 0, .ref (xa 9), .int 0, .int 0, .int 0]))]) hP hD [1] [0] rfl rfl (by decide) (by decide) hk1 hFc hP1 hD1
  generalize H1 = H at hP hS ⊢
  have hP : va_P D vwCl [(hx0, .inr (11, [.ref (xa 0), .int 0, .int (-1), .ref (xa 1), .ref (xa 2), .ref (xa 3), .ref (xa 4), .ref (xa 5)])), ((xa 1), .inr (7, [.ref (xa 6), .int 0, .ref (xa 7), .ref (xa 8), .int 0, .ref (xa 9), .int 0, .int 0, .int 0]))] H := hP
  have hD : va_D A [(hx0, .inr (11, [.ref (xa 0), .int 0, .int (-1), .ref (xa 1), .ref (xa 2), .ref (xa 3), .ref (xa 4), .ref (xa 5)])), ((xa 1), .inr (7, [.ref (xa 6), .int 0, .ref (xa 7), .ref (xa 8), .int 0, .ref (xa 9), .int 0, .int 0, .int 0]))] := hD
  obtain rfl := w2
  refine lv_astore_nN (lv' := [(3, .null), (0, .ref hx0), (1, .int p0), (2, .int p1)]) hx hb dX11_fails_8 rfl hl (by decide) rfl (fun ls hl => ?_)
  refine lv_aload_nN hx hb dX11_fails_9 rfl (lv_at hl 0 rfl) ?_
  refine lv_ifnonnullN hx hb dX11_fails_10 ?_
  refine lv_null hx hb dX11_fails_13 ?_
  refine lv_goto (tgt := 22) hx hb dX11_fails_14 (by decide) ?_
  refine lv_astoreN (lv' := [(4, .null), (3, .null), (0, .ref hx0), (1, .int p0), (2, .int p1)]) hx hb dX11_fails_22 hl (by decide) rfl (fun ls hl => ?_)
  refine lv_aloadN hx hb dX11_fails_24 (lv_at hl 0 rfl) ?_
  refine lv_ifnonnullN hx hb dX11_fails_26 ?_
  refine lv_iconst (v := (-1)) hx hb dX11_fails_29 (by decide) ?_
  refine lv_goto (tgt := 41) hx hb dX11_fails_30 (by decide) ?_
  have hP9 := hP.sub (ws' := []) [] rfl
  have hD9 := hD.sub (ws' := []) [] (by decide) rfl
  refine W.widen (k := 0) (n := 0) (Nat.le_of_ble_eq_true rfl) (Nat.le_of_ble_eq_true rfl) ?_
  exact W.iret (v := (-1)) hx hb hr (fun t ht hW => ⟨⟨(-1), (), rfl, rfl, by rw [ht]; exact hP9, hD9⟩, hS.F ht⟩) hS.2.2 dX11_fails_41

set_option maxHeartbeats 4000000 in
set_option maxRecDepth 100000 in
theorem m_fails (l : Launch) (D : va_G) (cy : Nat → ClassId) (sz : Nat) (hm : Nat) (ma : Nat → Nat) (p0 : Int32) (p1 : Int32) : Met l yX12_fails (.code yX12_fails cX12_fails 4 (some .int) :: TB) ({ frames := 0, cells := 0, slots := 0, locals := 0 }) (va_Pc [.ref hm, .int p0, .int p1] (fun U => U.heap.size = sz ∧ va_P D vwCl [(hm, .inr (12, [.int 0, .ref (ma 1), .int 0, .int (-1), .ref (ma 4), .int 0, .int 0, .int 0, .long 0, .int 0, .int 0, .int 0, .int 0, .long 0, .int 0, .int 0, .int 0, .ref (ma 17), .ref (ma 18), .ref (ma 19), .ref (ma 20), .ref (ma 21), .ref (ma 22), .ref (ma 23), .ref (ma 24), .ref (ma 25), .ref (ma 26), .ref (ma 27), .ref (ma 28), .ref (ma 29), .ref (ma 30), .ref (ma 31), .ref (ma 32), .ref (ma 33), .ref (ma 34), .ref (ma 35), .ref (ma 36), .ref (ma 37), .ref (ma 38), .ref (ma 39), .ref (ma 40), .ref (ma 41), .ref (ma 42), .ref (ma 43), .ref (ma 44), .ref (ma 45), .ref (ma 46), .ref (ma 47), .ref (ma 48), .int 0, .int 0, .int 0, .int 0, .int 0, .int 0, .int 0, .int 0, .int 0, .int 0, .ref (ma 59), .ref (ma 60), .int 0, .int 0, .int 0, .int 0, .int 0, .int 0, .ref (ma 67), .ref (ma 68), .ref (ma 69), .int 0, .int (-1), .int 0, .ref (ma 73)])), ((ma 17), .inl (cy 1, 2, .inl (fun _ => 0)))] U.heap ∧ va_K D vwCl (TY cy) U ∧ va_D (fun _ => True) [(hm, .inr (12, [.int 0, .ref (ma 1), .int 0, .int (-1), .ref (ma 4), .int 0, .int 0, .int 0, .long 0, .int 0, .int 0, .int 0, .int 0, .long 0, .int 0, .int 0, .int 0, .ref (ma 17), .ref (ma 18), .ref (ma 19), .ref (ma 20), .ref (ma 21), .ref (ma 22), .ref (ma 23), .ref (ma 24), .ref (ma 25), .ref (ma 26), .ref (ma 27), .ref (ma 28), .ref (ma 29), .ref (ma 30), .ref (ma 31), .ref (ma 32), .ref (ma 33), .ref (ma 34), .ref (ma 35), .ref (ma 36), .ref (ma 37), .ref (ma 38), .ref (ma 39), .ref (ma 40), .ref (ma 41), .ref (ma 42), .ref (ma 43), .ref (ma 44), .ref (ma 45), .ref (ma 46), .ref (ma 47), .ref (ma 48), .int 0, .int 0, .int 0, .int 0, .int 0, .int 0, .int 0, .int 0, .int 0, .int 0, .ref (ma 59), .ref (ma 60), .int 0, .int 0, .int 0, .int 0, .int 0, .int 0, .ref (ma 67), .ref (ma 68), .ref (ma 69), .int 0, .int (-1), .int 0, .ref (ma 73)])), ((ma 17), .inl (cy 1, 2, .inl (fun _ => 0)))])) (va_Qi (fun (r : Int32) (u : Unit) => r = -1) (fun (u : Unit) t => va_P D vwCl [] t.heap ∧ va_D (va_A [(hm, .inr (12, [.int 0, .ref (ma 1), .int 0, .int (-1), .ref (ma 4), .int 0, .int 0, .int 0, .long 0, .int 0, .int 0, .int 0, .int 0, .long 0, .int 0, .int 0, .int 0, .ref (ma 17), .ref (ma 18), .ref (ma 19), .ref (ma 20), .ref (ma 21), .ref (ma 22), .ref (ma 23), .ref (ma 24), .ref (ma 25), .ref (ma 26), .ref (ma 27), .ref (ma 28), .ref (ma 29), .ref (ma 30), .ref (ma 31), .ref (ma 32), .ref (ma 33), .ref (ma 34), .ref (ma 35), .ref (ma 36), .ref (ma 37), .ref (ma 38), .ref (ma 39), .ref (ma 40), .ref (ma 41), .ref (ma 42), .ref (ma 43), .ref (ma 44), .ref (ma 45), .ref (ma 46), .ref (ma 47), .ref (ma 48), .int 0, .int 0, .int 0, .int 0, .int 0, .int 0, .int 0, .int 0, .int 0, .int 0, .ref (ma 59), .ref (ma 60), .int 0, .int 0, .int 0, .int 0, .int 0, .int 0, .ref (ma 67), .ref (ma 68), .ref (ma 69), .int 0, .int (-1), .int 0, .ref (ma 73)])), ((ma 17), .inl (cy 1, 2, .inl (fun _ => 0)))] sz) []) (va_A [(hm, .inr (12, [.int 0, .ref (ma 1), .int 0, .int (-1), .ref (ma 4), .int 0, .int 0, .int 0, .long 0, .int 0, .int 0, .int 0, .int 0, .long 0, .int 0, .int 0, .int 0, .ref (ma 17), .ref (ma 18), .ref (ma 19), .ref (ma 20), .ref (ma 21), .ref (ma 22), .ref (ma 23), .ref (ma 24), .ref (ma 25), .ref (ma 26), .ref (ma 27), .ref (ma 28), .ref (ma 29), .ref (ma 30), .ref (ma 31), .ref (ma 32), .ref (ma 33), .ref (ma 34), .ref (ma 35), .ref (ma 36), .ref (ma 37), .ref (ma 38), .ref (ma 39), .ref (ma 40), .ref (ma 41), .ref (ma 42), .ref (ma 43), .ref (ma 44), .ref (ma 45), .ref (ma 46), .ref (ma 47), .ref (ma 48), .int 0, .int 0, .int 0, .int 0, .int 0, .int 0, .int 0, .int 0, .int 0, .int 0, .ref (ma 59), .ref (ma 60), .int 0, .int 0, .int 0, .int 0, .int 0, .int 0, .ref (ma 67), .ref (ma 68), .ref (ma 69), .int 0, .int (-1), .int 0, .ref (ma 73)])), ((ma 17), .inl (cy 1, 2, .inl (fun _ => 0)))] sz)) 0 0 (va_A [(hm, .inr (12, [.int 0, .ref (ma 1), .int 0, .int (-1), .ref (ma 4), .int 0, .int 0, .int 0, .long 0, .int 0, .int 0, .int 0, .int 0, .long 0, .int 0, .int 0, .int 0, .ref (ma 17), .ref (ma 18), .ref (ma 19), .ref (ma 20), .ref (ma 21), .ref (ma 22), .ref (ma 23), .ref (ma 24), .ref (ma 25), .ref (ma 26), .ref (ma 27), .ref (ma 28), .ref (ma 29), .ref (ma 30), .ref (ma 31), .ref (ma 32), .ref (ma 33), .ref (ma 34), .ref (ma 35), .ref (ma 36), .ref (ma 37), .ref (ma 38), .ref (ma 39), .ref (ma 40), .ref (ma 41), .ref (ma 42), .ref (ma 43), .ref (ma 44), .ref (ma 45), .ref (ma 46), .ref (ma 47), .ref (ma 48), .int 0, .int 0, .int 0, .int 0, .int 0, .int 0, .int 0, .int 0, .int 0, .int 0, .ref (ma 59), .ref (ma 60), .int 0, .int 0, .int 0, .int 0, .int 0, .int 0, .ref (ma 67), .ref (ma 68), .ref (ma 69), .int 0, .int (-1), .int 0, .ref (ma 73)])), ((ma 17), .inl (cy 1, 2, .inl (fun _ => 0)))] sz) := by
  refine Met.ofW (cc := cX12_fails) (maxL := 4) (ret := (some .int)) (by decide) rfl ?_
  intro p e s m args below meth c s₁ B hml hv
  obtain ⟨rfl, hsz, hP, hK, hD0⟩ := hv
  have hx := B.exec
  have hb := B.bytes
  have hr := B.returns
  have hts := atoms_spec (ws := .code yX12_fails cX12_fails 4 (some .int) :: TB) B.pre
  have hT : ∀ w ∈ TB, w.before _ s = true := fun w h => hts w (List.mem_cons_of_mem _ h)
  have hown : s.vm.findClass "MakerStartsModel" = some m.cls := findClass_of_methodNamed B.named
  have hlocks := B.notSynchronized
  subst hsz
  have hD := hD0.self (sz := s.heap.size)
  generalize hAe : va_A [(hm, .inr (12, [.int 0, .ref (ma 1), .int 0, .int (-1), .ref (ma 4), .int 0, .int 0, .int 0, .long 0, .int 0, .int 0, .int 0, .int 0, .long 0, .int 0, .int 0, .int 0, .ref (ma 17), .ref (ma 18), .ref (ma 19), .ref (ma 20), .ref (ma 21), .ref (ma 22), .ref (ma 23), .ref (ma 24), .ref (ma 25), .ref (ma 26), .ref (ma 27), .ref (ma 28), .ref (ma 29), .ref (ma 30), .ref (ma 31), .ref (ma 32), .ref (ma 33), .ref (ma 34), .ref (ma 35), .ref (ma 36), .ref (ma 37), .ref (ma 38), .ref (ma 39), .ref (ma 40), .ref (ma 41), .ref (ma 42), .ref (ma 43), .ref (ma 44), .ref (ma 45), .ref (ma 46), .ref (ma 47), .ref (ma 48), .int 0, .int 0, .int 0, .int 0, .int 0, .int 0, .int 0, .int 0, .int 0, .int 0, .ref (ma 59), .ref (ma 60), .int 0, .int 0, .int 0, .int 0, .int 0, .int 0, .ref (ma 67), .ref (ma 68), .ref (ma 69), .int 0, .int (-1), .int 0, .ref (ma 73)])), ((ma 17), .inl (cy 1, 2, .inl (fun _ => 0)))] s.heap.size = A at hD  ⊢
  have hA : ∀ q : Nat, s.heap.size ≤ q → A q := fun q h => by rw [← hAe]; exact Or.inr h
  have hS : va_S A s.heap s.heap [] := va_S.rf
  have hP : va_P D vwCl [(hm, .inr (12, [.int 0, .ref (ma 1), .int 0, .int (-1), .ref (ma 4), .int 0, .int 0, .int 0, .long 0, .int 0, .int 0, .int 0, .int 0, .long 0, .int 0, .int 0, .int 0, .ref (ma 17), .ref (ma 18), .ref (ma 19), .ref (ma 20), .ref (ma 21), .ref (ma 22), .ref (ma 23), .ref (ma 24), .ref (ma 25), .ref (ma 26), .ref (ma 27), .ref (ma 28), .ref (ma 29), .ref (ma 30), .ref (ma 31), .ref (ma 32), .ref (ma 33), .ref (ma 34), .ref (ma 35), .ref (ma 36), .ref (ma 37), .ref (ma 38), .ref (ma 39), .ref (ma 40), .ref (ma 41), .ref (ma 42), .ref (ma 43), .ref (ma 44), .ref (ma 45), .ref (ma 46), .ref (ma 47), .ref (ma 48), .int 0, .int 0, .int 0, .int 0, .int 0, .int 0, .int 0, .int 0, .int 0, .int 0, .ref (ma 59), .ref (ma 60), .int 0, .int 0, .int 0, .int 0, .int 0, .int 0, .ref (ma 67), .ref (ma 68), .ref (ma 69), .int 0, .int (-1), .int 0, .ref (ma 73)])), ((ma 17), .inl (cy 1, 2, .inl (fun _ => 0)))] s.heap := hP
  have hl := lv_entry ([.ref hm, .int p0, .int p1]) (n := 4) (Nat.le_of_ble_eq_true rfl)
  rw [lg_entry_eq]
  generalize (lg_sl ([.ref hm, .int p0, .int p1]) ++ List.replicate (4 - (lg_sl ([.ref hm, .int p0, .int p1])).length) Slot.unset).toArray = ls at hl ⊢
  have hl : lv_has ls 4 [(0, .ref hm), (1, .int p0), (2, .int p1)] := hl
  refine lv_aload_n hx hb dX12_fails_0 rfl (lv_at hl 0 rfl) ?_
  refine lv_iconst (v := 0) hx hb dX12_fails_1 (by decide) ?_
  refine va_put (D := D) (ci := 12) (v := .int 0) (ty := .int) (C := RX12) (T := TX12) (N := 74) hx hb hT i_TX12 tyX12 tyX12_ok nmX12 hown hK hP hD hS 0 rfl rfl 0 (by decide) (hT _ t_1715) (fun _ h9 => h9) rfl (by decide +kernel) rfl rfl (Nat.le_of_ble_eq_true rfl) dX12_fails_2 (fun H locs hP hD hS => ?_)
  have hP : va_P D vwCl [(hm, .inr (12, [.int 0, .ref (ma 1), .int 0, .int (-1), .ref (ma 4), .int 0, .int 0, .int 0, .long 0, .int 0, .int 0, .int 0, .int 0, .long 0, .int 0, .int 0, .int 0, .ref (ma 17), .ref (ma 18), .ref (ma 19), .ref (ma 20), .ref (ma 21), .ref (ma 22), .ref (ma 23), .ref (ma 24), .ref (ma 25), .ref (ma 26), .ref (ma 27), .ref (ma 28), .ref (ma 29), .ref (ma 30), .ref (ma 31), .ref (ma 32), .ref (ma 33), .ref (ma 34), .ref (ma 35), .ref (ma 36), .ref (ma 37), .ref (ma 38), .ref (ma 39), .ref (ma 40), .ref (ma 41), .ref (ma 42), .ref (ma 43), .ref (ma 44), .ref (ma 45), .ref (ma 46), .ref (ma 47), .ref (ma 48), .int 0, .int 0, .int 0, .int 0, .int 0, .int 0, .int 0, .int 0, .int 0, .int 0, .ref (ma 59), .ref (ma 60), .int 0, .int 0, .int 0, .int 0, .int 0, .int 0, .ref (ma 67), .ref (ma 68), .ref (ma 69), .int 0, .int (-1), .int 0, .ref (ma 73)])), ((ma 17), .inl (cy 1, 2, .inl (fun _ => 0)))] H := hP
  have hD : va_D A [(hm, .inr (12, [.int 0, .ref (ma 1), .int 0, .int (-1), .ref (ma 4), .int 0, .int 0, .int 0, .long 0, .int 0, .int 0, .int 0, .int 0, .long 0, .int 0, .int 0, .int 0, .ref (ma 17), .ref (ma 18), .ref (ma 19), .ref (ma 20), .ref (ma 21), .ref (ma 22), .ref (ma 23), .ref (ma 24), .ref (ma 25), .ref (ma 26), .ref (ma 27), .ref (ma 28), .ref (ma 29), .ref (ma 30), .ref (ma 31), .ref (ma 32), .ref (ma 33), .ref (ma 34), .ref (ma 35), .ref (ma 36), .ref (ma 37), .ref (ma 38), .ref (ma 39), .ref (ma 40), .ref (ma 41), .ref (ma 42), .ref (ma 43), .ref (ma 44), .ref (ma 45), .ref (ma 46), .ref (ma 47), .ref (ma 48), .int 0, .int 0, .int 0, .int 0, .int 0, .int 0, .int 0, .int 0, .int 0, .int 0, .ref (ma 59), .ref (ma 60), .int 0, .int 0, .int 0, .int 0, .int 0, .int 0, .ref (ma 67), .ref (ma 68), .ref (ma 69), .int 0, .int (-1), .int 0, .ref (ma 73)])), ((ma 17), .inl (cy 1, 2, .inl (fun _ => 0)))] := hD
  refine lv_iload_n hx hb dX12_fails_5 rfl (lv_at hl 1 rfl) ?_
  refine lv_if_lt (tgt := 31) hx hb dX12_fails_6 (by decide) (fun c1 => ?_) (fun c1 => ?_)
  · refine lv_iconst (v := (-1)) hx hb dX12_fails_31 (by decide) ?_
    have hP9 := hP.sub (ws' := []) [] rfl
    have hD9 := hD.sub (ws' := []) [] (by decide) rfl
    refine W.widen (k := 0) (n := 0) (Nat.le_of_ble_eq_true rfl) (Nat.le_of_ble_eq_true rfl) ?_
    exact W.iret (v := (-1)) hx hb hr (fun t ht hW => ⟨⟨(-1), (), rfl, rfl, by rw [ht]; exact hP9, hD9⟩, hS.F ht⟩) hS.2.2 dX12_fails_32
  · refine lv_iload_n hx hb dX12_fails_9 rfl (lv_at hl 1 rfl) ?_
    refine lv_aload_n hx hb dX12_fails_10 rfl (lv_at hl 0 rfl) ?_
    refine va_get (D := D) (ci := 12) (v := .ref (ma 17)) (C := RX12) (T := TX12) (N := 74) hx hb hT i_TX12 hown hK hP 0 rfl rfl 17 (by decide) (hT _ t_1732) (fun _ h9 => h9) rfl dX12_fails_11 ?_
    refine lv_aload_n hx hb dX12_fails_14 rfl (lv_at hl 0 rfl) ?_
    refine va_get (D := D) (ci := 12) (v := .int 0) (C := RX12) (T := TX12) (N := 74) hx hb hT i_TX12 hown hK hP 0 rfl rfl 15 (by decide) (hT _ t_1730) (fun _ h9 => h9) rfl dX12_fails_15 ?_
    refine va_iald hx hb hK hP 1 1 rfl rfl (vp_in_iff.mpr (by decide)) dX12_fails_18 ?_
    refine lv_topi (fun z2 e3 => ?_)
    obtain rfl : z2 = 0 := e3.trans (by first | decide | rfl)
    refine lv_icmp_ge (tgt := 31) hx hb dX12_fails_19 (by decide) (fun _ => ?_) (fun c9 => absurd (Int32.not_lt.mp c1) c9)
    refine lv_iconst (v := (-1)) hx hb dX12_fails_31 (by decide) ?_
    have hP9 := hP.sub (ws' := []) [] rfl
    have hD9 := hD.sub (ws' := []) [] (by decide) rfl
    refine W.widen (k := 0) (n := 0) (Nat.le_of_ble_eq_true rfl) (Nat.le_of_ble_eq_true rfl) ?_
    exact W.iret (v := (-1)) hx hb hr (fun t ht hW => ⟨⟨(-1), (), rfl, rfl, by rw [ht]; exact hP9, hD9⟩, hS.F ht⟩) hS.2.2 dX12_fails_32
