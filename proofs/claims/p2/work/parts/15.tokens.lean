theorem t_266 : (Jvm.Cond.methodLink "MakerStarts$Tokens" (3 : Nat) ({ cls := "java/lang/Object", name := "<init>", desc := "()V" } : Jvm.MethodName)) ∈ TB := inTB 266 (by decide +kernel) (by decide +kernel)
theorem t_268 : (Jvm.Cond.methodLink "MakerStarts$Tokens" (27 : Nat) ({ cls := "java/lang/String", name := "length", desc := "()I" } : Jvm.MethodName)) ∈ TB := inTB 268 (by decide +kernel) (by decide +kernel)
theorem t_269 : (Jvm.Cond.instanceMethod ({ cls := "java/lang/String", name := "length", desc := "()I" } : Jvm.MethodName)) ∈ TB := inTB 269 (by decide +kernel) (by decide +kernel)
theorem t_270 : (Jvm.Cond.selects "java/lang/String" ({ cls := "java/lang/String", name := "length", desc := "()I" } : Jvm.MethodName) ({ cls := "java/lang/String", name := "length", desc := "()I" } : Jvm.MethodName)) ∈ TB := inTB 270 (by decide +kernel) (by decide +kernel)
theorem t_271 : (Jvm.Cond.code ({ cls := "java/lang/String", name := "length", desc := "()I" } : Jvm.MethodName) prog_24_method_54_code (1 : Nat) (Option.some Jvm.ClassFile.FieldType.int)) ∈ TB := inTB 271 (by decide +kernel) (by decide +kernel)
theorem t_278 : (Jvm.Cond.methodLink "MakerStarts$Tokens" (33 : Nat) ({ cls := "java/lang/String", name := "charAt", desc := "(I)C" } : Jvm.MethodName)) ∈ TB := inTB 278 (by decide +kernel) (by decide +kernel)
theorem t_279 : (Jvm.Cond.instanceMethod ({ cls := "java/lang/String", name := "charAt", desc := "(I)C" } : Jvm.MethodName)) ∈ TB := inTB 279 (by decide +kernel) (by decide +kernel)
theorem t_280 : (Jvm.Cond.selects "java/lang/String" ({ cls := "java/lang/String", name := "charAt", desc := "(I)C" } : Jvm.MethodName) ({ cls := "java/lang/String", name := "charAt", desc := "(I)C" } : Jvm.MethodName)) ∈ TB := inTB 280 (by decide +kernel) (by decide +kernel)
theorem t_281 : (Jvm.Cond.code ({ cls := "java/lang/String", name := "charAt", desc := "(I)C" } : Jvm.MethodName) prog_24_method_56_code (2 : Nat) (Option.some Jvm.ClassFile.FieldType.char)) ∈ TB := inTB 281 (by decide +kernel) (by decide +kernel)
theorem t_316 : (Jvm.Cond.fieldLink "MakerStarts$Tokens" (9 : Nat) "MakerStarts$Tokens" "kinds" "[I") ∈ TB := inTB 316 (by decide +kernel) (by decide +kernel)
theorem t_317 : (Jvm.Cond.fieldLink "MakerStarts$Tokens" (15 : Nat) "MakerStarts$Tokens" "places" "[I") ∈ TB := inTB 317 (by decide +kernel) (by decide +kernel)
theorem t_318 : (Jvm.Cond.fieldLink "MakerStarts$Tokens" (18 : Nat) "MakerStarts$Tokens" "words" "[J") ∈ TB := inTB 318 (by decide +kernel) (by decide +kernel)
theorem t_319 : (Jvm.Cond.fieldLink "MakerStarts$Tokens" (22 : Nat) "MakerStarts$Tokens" "keys" "[J") ∈ TB := inTB 319 (by decide +kernel) (by decide +kernel)
theorem dJ7_fill_53178_0 : decode cJ7_fill_53178 0 = .ok (.iconst 0, 1) := by decide +kernel
theorem dJ7_fill_53178_1 : decode cJ7_fill_53178 1 = .ok (.istore_n 2, 1) := by decide +kernel
theorem dJ7_fill_53178_2 : decode cJ7_fill_53178 2 = .ok (.aload_n 0, 1) := by decide +kernel
theorem dJ7_fill_53178_3 : decode cJ7_fill_53178 3 = .ok (.arraylength, 1) := by decide +kernel
theorem dJ7_fill_53178_4 : decode cJ7_fill_53178 4 = .ok (.istore_n 3, 1) := by decide +kernel
theorem dJ7_fill_53178_5 : decode cJ7_fill_53178 5 = .ok (.iload_n 2, 1) := by decide +kernel
theorem dJ7_fill_53178_6 : decode cJ7_fill_53178 6 = .ok (.iload_n 3, 1) := by decide +kernel
theorem dJ7_fill_53178_7 : decode cJ7_fill_53178 7 = .ok (.if_icmp .ge 13, 3) := by decide +kernel
theorem dJ7_fill_53178_10 : decode cJ7_fill_53178 10 = .ok (.aload_n 0, 1) := by decide +kernel
theorem dJ7_fill_53178_11 : decode cJ7_fill_53178 11 = .ok (.iload_n 2, 1) := by decide +kernel
theorem dJ7_fill_53178_12 : decode cJ7_fill_53178 12 = .ok (.iload_n 1, 1) := by decide +kernel
theorem dJ7_fill_53178_13 : decode cJ7_fill_53178 13 = .ok (.iastore, 1) := by decide +kernel
theorem dJ7_fill_53178_14 : decode cJ7_fill_53178 14 = .ok (.iinc 2 1, 3) := by decide +kernel
theorem dJ7_fill_53178_17 : decode cJ7_fill_53178 17 = .ok (.goto (-12), 3) := by decide +kernel
theorem dJ7_fill_53178_20 : decode cJ7_fill_53178 20 = .ok (.return_, 1) := by decide +kernel
theorem dX8_init_0 : decode cX8_init 0 = .ok (.aload_n 0, 1) := by decide +kernel
theorem dX8_init_1 : decode cX8_init 1 = .ok (.invokespecial 3, 3) := by decide +kernel
theorem dX8_init_4 : decode cX8_init 4 = .ok (.aload_n 0, 1) := by decide +kernel
theorem dX8_init_5 : decode cX8_init 5 = .ok (.sipush 1601, 3) := by decide +kernel
theorem dX8_init_8 : decode cX8_init 8 = .ok (.newarray .int, 2) := by decide +kernel
theorem dX8_init_10 : decode cX8_init 10 = .ok (.putfield 9, 3) := by decide +kernel
theorem dX8_init_13 : decode cX8_init 13 = .ok (.aload_n 0, 1) := by decide +kernel
theorem dX8_init_14 : decode cX8_init 14 = .ok (.sipush 1601, 3) := by decide +kernel
theorem dX8_init_17 : decode cX8_init 17 = .ok (.newarray .int, 2) := by decide +kernel
theorem dX8_init_19 : decode cX8_init 19 = .ok (.putfield 15, 3) := by decide +kernel
theorem dX8_init_22 : decode cX8_init 22 = .ok (.aload_n 0, 1) := by decide +kernel
theorem dX8_init_23 : decode cX8_init 23 = .ok (.sipush 1601, 3) := by decide +kernel
theorem dX8_init_26 : decode cX8_init 26 = .ok (.newarray .long, 2) := by decide +kernel
theorem dX8_init_28 : decode cX8_init 28 = .ok (.putfield 18, 3) := by decide +kernel
theorem dX8_init_31 : decode cX8_init 31 = .ok (.aload_n 0, 1) := by decide +kernel
theorem dX8_init_32 : decode cX8_init 32 = .ok (.bipush 19, 2) := by decide +kernel
theorem dX8_init_34 : decode cX8_init 34 = .ok (.newarray .long, 2) := by decide +kernel
theorem dX8_init_36 : decode cX8_init 36 = .ok (.putfield 22, 3) := by decide +kernel
theorem dX8_init_39 : decode cX8_init 39 = .ok (.iconst 0, 1) := by decide +kernel
theorem dX8_init_40 : decode cX8_init 40 = .ok (.istore_n 1, 1) := by decide +kernel
theorem dX8_init_41 : decode cX8_init 41 = .ok (.lconst 0, 1) := by decide +kernel
theorem dX8_init_42 : decode cX8_init 42 = .ok (.lstore_n 2, 1) := by decide +kernel
theorem dX8_init_43 : decode cX8_init 43 = .ok (.iconst 0, 1) := by decide +kernel
theorem dX8_init_44 : decode cX8_init 44 = .ok (.istore 4, 2) := by decide +kernel
theorem dX8_init_46 : decode cX8_init 46 = .ok (.iload 4, 2) := by decide +kernel
theorem dX8_init_48 : decode cX8_init 48 = .ok (.ldc 25, 2) := by decide +kernel
theorem dX8_init_50 : decode cX8_init 50 = .ok (.invokevirtual 27, 3) := by decide +kernel
theorem dX8_init_53 : decode cX8_init 53 = .ok (.if_icmp .ge 55, 3) := by decide +kernel
theorem dX8_init_56 : decode cX8_init 56 = .ok (.ldc 25, 2) := by decide +kernel
theorem dX8_init_58 : decode cX8_init 58 = .ok (.iload 4, 2) := by decide +kernel
theorem dX8_init_60 : decode cX8_init 60 = .ok (.invokevirtual 33, 3) := by decide +kernel
theorem dX8_init_63 : decode cX8_init 63 = .ok (.istore 5, 2) := by decide +kernel
theorem dX8_init_65 : decode cX8_init 65 = .ok (.iload 5, 2) := by decide +kernel
theorem dX8_init_67 : decode cX8_init 67 = .ok (.bipush 32, 2) := by decide +kernel
theorem dX8_init_69 : decode cX8_init 69 = .ok (.if_icmp .eq 15, 3) := by decide +kernel
theorem dX8_init_72 : decode cX8_init 72 = .ok (.lload_n 2, 1) := by decide +kernel
theorem dX8_init_73 : decode cX8_init 73 = .ok (.bipush 8, 2) := by decide +kernel
theorem dX8_init_75 : decode cX8_init 75 = .ok (.lshl, 1) := by decide +kernel
theorem dX8_init_76 : decode cX8_init 76 = .ok (.iload 5, 2) := by decide +kernel
theorem dX8_init_78 : decode cX8_init 78 = .ok (.i2l, 1) := by decide +kernel
theorem dX8_init_79 : decode cX8_init 79 = .ok (.lor, 1) := by decide +kernel
theorem dX8_init_80 : decode cX8_init 80 = .ok (.lstore_n 2, 1) := by decide +kernel
theorem dX8_init_81 : decode cX8_init 81 = .ok (.goto 21, 3) := by decide +kernel
theorem dX8_init_84 : decode cX8_init 84 = .ok (.iload_n 1, 1) := by decide +kernel
theorem dX8_init_85 : decode cX8_init 85 = .ok (.bipush 19, 2) := by decide +kernel
theorem dX8_init_87 : decode cX8_init 87 = .ok (.if_icmp .ge 15, 3) := by decide +kernel
theorem dX8_init_90 : decode cX8_init 90 = .ok (.aload_n 0, 1) := by decide +kernel
theorem dX8_init_91 : decode cX8_init 91 = .ok (.getfield 22, 3) := by decide +kernel
theorem dX8_init_94 : decode cX8_init 94 = .ok (.iload_n 1, 1) := by decide +kernel
theorem dX8_init_95 : decode cX8_init 95 = .ok (.lload_n 2, 1) := by decide +kernel
theorem dX8_init_96 : decode cX8_init 96 = .ok (.lastore, 1) := by decide +kernel
theorem dX8_init_97 : decode cX8_init 97 = .ok (.iinc 1 1, 3) := by decide +kernel
theorem dX8_init_100 : decode cX8_init 100 = .ok (.lconst 0, 1) := by decide +kernel
theorem dX8_init_101 : decode cX8_init 101 = .ok (.lstore_n 2, 1) := by decide +kernel
theorem dX8_init_102 : decode cX8_init 102 = .ok (.iinc 4 1, 3) := by decide +kernel
theorem dX8_init_105 : decode cX8_init 105 = .ok (.goto (-59), 3) := by decide +kernel
theorem dX8_init_108 : decode cX8_init 108 = .ok (.return_, 1) := by decide +kernel
set_option maxHeartbeats 4000000 in
set_option maxRecDepth 100000 in
theorem c_Tokens_init (l : Launch) (D : va_G) (cy : Nat → ClassId) (sz : Nat) (h0 : Nat) (tE : Nat) (tK : Nat) (tV : Nat) (s1 : Nat) (s2 : Nat) (s3 : Nat) : Met l yX8_init (.code yX8_init cX8_init 6 none :: TB) ({ frames := 4, cells := 4, slots := 4822, locals := 85 }) (va_Pc [.ref h0] (fun U => U.heap.size = sz ∧ va_P D vwCl [(h0, .inr (8, [.null, .null, .null, .null, .int 0, .int 0, .int 0, .int 0, .int 0]))] U.heap ∧ va_K D vwCl (TY cy) U ∧ va_D (fun _ => True) [(h0, .inr (8, [.null, .null, .null, .null, .int 0, .int 0, .int 0, .int 0, .int 0]))] ∧ Gv tE tK tV s1 s2 s3 (va_A [(h0, .inr (8, [.null, .null, .null, .null, .int 0, .int 0, .int 0, .int 0, .int 0]))] sz) U U.heap)) (va_Qv (fun (u : Nat × Nat × Nat × Nat) => True) (fun (u : Nat × Nat × Nat × Nat) t => va_P D vwCl [(h0, .inr (8, [.ref u.1, .ref u.2.1, .ref u.2.2.1, .ref u.2.2.2, .int 0, .int 0, .int 0, .int 0, .int 0])), (u.1, .inl (cy 1, 1601, .inl (fun _ => 0))), (u.2.1, .inl (cy 1, 1601, .inl (fun _ => 0)))] t.heap ∧ va_D (va_A [(h0, .inr (8, [.null, .null, .null, .null, .int 0, .int 0, .int 0, .int 0, .int 0]))] sz) [(h0, .inr (8, [.ref u.1, .ref u.2.1, .ref u.2.2.1, .ref u.2.2.2, .int 0, .int 0, .int 0, .int 0, .int 0])), (u.1, .inl (cy 1, 1601, .inl (fun _ => 0))), (u.2.1, .inl (cy 1, 1601, .inl (fun _ => 0)))]) (va_A [(h0, .inr (8, [.null, .null, .null, .null, .int 0, .int 0, .int 0, .int 0, .int 0]))] sz)) 4 4822 (va_A [(h0, .inr (8, [.null, .null, .null, .null, .int 0, .int 0, .int 0, .int 0, .int 0]))] sz) := by
  refine Met.ofW (cc := cX8_init) (maxL := 6) (ret := none) (by decide) rfl ?_
  intro p e s m args below meth c s₁ B hml hv
  obtain ⟨rfl, hsz, hP, hK, hD0, hG⟩ := hv
  have hx := B.exec
  have hb := B.bytes
  have hr := B.returns
  have hts := atoms_spec (ws := .code yX8_init cX8_init 6 none :: TB) B.pre
  have hT : ∀ w ∈ TB, w.before _ s = true := fun w h => hts w (List.mem_cons_of_mem _ h)
  have hown : s.vm.findClass "MakerStarts$Tokens" = some m.cls := findClass_of_methodNamed B.named
  have hlocks := B.notSynchronized
  have hin : meth.name = "<init>" := (name_of_methodNamed B.named B.method).1
  subst hsz
  have hD := hD0.self (sz := s.heap.size)
  generalize hAe : va_A [(h0, .inr (8, [.null, .null, .null, .null, .int 0, .int 0, .int 0, .int 0, .int 0]))] s.heap.size = A at hD hG ⊢
  have hA : ∀ q : Nat, s.heap.size ≤ q → A q := fun q h => by rw [← hAe]; exact Or.inr h
  have hS : va_S A s.heap s.heap [] := va_S.rf
  have hP : va_P D vwCl [(h0, .inr (8, [.null, .null, .null, .null, .int 0, .int 0, .int 0, .int 0, .int 0]))] s.heap := hP
  have hl := lv_entry ([.ref h0]) (n := 6) (Nat.le_of_ble_eq_true rfl)
  rw [lg_entry_eq]
  generalize (lg_sl ([.ref h0]) ++ List.replicate (6 - (lg_sl ([.ref h0])).length) Slot.unset).toArray = ls at hl ⊢
  have hl : lv_has ls 6 [(0, .ref h0)] := hl
  refine lv_aload_n hx hb dX8_init_0 rfl (lv_at hl 0 rfl) ?_
  refine W.objInit hx hb hown (hT _ t_266) (hT _ t_175) (hT _ t_176) rfl (by rw [hml]; exact hl.1) rfl dX8_init_1 (Nat.le_of_ble_eq_true rfl) (Nat.le_of_ble_eq_true rfl) ?_
  refine W.eq (g2 := F0 m 4 ls []) rfl ?_
  refine lv_aload_n hx hb dX8_init_4 rfl (lv_at hl 0 rfl) ?_
  refine lv_sipush (v := 1601) hx hb dX8_init_5 (by decide) ?_
  refine va_newa (atype := .int) (n := 1601) (a0 := (1601, .inl (fun _ => 0))) (ty := .int) hx hb (hT _ t_254) rfl hK hP hD hS hA (fun _ => rfl) (by decide) (by decide) (by decide) (Nat.le_of_ble_eq_true rfl) (Nat.le_of_ble_eq_true rfl) dX8_init_8 (fun q1 cA H hK9 hP hD hS => ?_)
  obtain rfl := ty_same hK9 1 6 rfl rfl
  clear hK9
  have hP : va_P D vwCl [(h0, .inr (8, [.null, .null, .null, .null, .int 0, .int 0, .int 0, .int 0, .int 0])), (q1, .inl (cy 1, 1601, .inl (fun _ => 0)))] H := hP
  have hD : va_D A [(h0, .inr (8, [.null, .null, .null, .null, .int 0, .int 0, .int 0, .int 0, .int 0])), (q1, .inl (cy 1, 1601, .inl (fun _ => 0)))] := hD
  refine va_putF (D := D) (ci := 8) (v := .ref q1) (ty := .array .int) (C := RX8) (T := TX8) (N := 9) hx hb hT i_TX8 tyX8 tyX8_ok nmX8 hown hK hP hD hS 0 rfl rfl 0 (by decide) (hT _ t_316) (fun _ h9 => h9) rfl hin rfl (by decide +kernel) rfl rfl (Nat.le_of_ble_eq_true rfl) dX8_init_10 (fun H locs hP hD hS => ?_)
  have hP : va_P D vwCl [(h0, .inr (8, [.ref q1, .null, .null, .null, .int 0, .int 0, .int 0, .int 0, .int 0])), (q1, .inl (cy 1, 1601, .inl (fun _ => 0)))] H := hP
  have hD : va_D A [(h0, .inr (8, [.ref q1, .null, .null, .null, .int 0, .int 0, .int 0, .int 0, .int 0])), (q1, .inl (cy 1, 1601, .inl (fun _ => 0)))] := hD
  refine lv_aload_n hx hb dX8_init_13 rfl (lv_at hl 0 rfl) ?_
  refine lv_sipush (v := 1601) hx hb dX8_init_14 (by decide) ?_
  refine va_newa (atype := .int) (n := 1601) (a0 := (1601, .inl (fun _ => 0))) (ty := .int) hx hb (hT _ t_254) rfl hK hP hD hS hA (fun _ => rfl) (by decide) (by decide) (by decide) (Nat.le_of_ble_eq_true rfl) (Nat.le_of_ble_eq_true rfl) dX8_init_17 (fun q2 cA H hK9 hP hD hS => ?_)
  obtain rfl := ty_same hK9 1 6 rfl rfl
  clear hK9
  have hP : va_P D vwCl [(h0, .inr (8, [.ref q1, .null, .null, .null, .int 0, .int 0, .int 0, .int 0, .int 0])), (q1, .inl (cy 1, 1601, .inl (fun _ => 0))), (q2, .inl (cy 1, 1601, .inl (fun _ => 0)))] H := hP
  have hD : va_D A [(h0, .inr (8, [.ref q1, .null, .null, .null, .int 0, .int 0, .int 0, .int 0, .int 0])), (q1, .inl (cy 1, 1601, .inl (fun _ => 0))), (q2, .inl (cy 1, 1601, .inl (fun _ => 0)))] := hD
  refine va_putF (D := D) (ci := 8) (v := .ref q2) (ty := .array .int) (C := RX8) (T := TX8) (N := 9) hx hb hT i_TX8 tyX8 tyX8_ok nmX8 hown hK hP hD hS 0 rfl rfl 1 (by decide) (hT _ t_317) (fun _ h9 => h9) rfl hin rfl (by decide +kernel) rfl rfl (Nat.le_of_ble_eq_true rfl) dX8_init_19 (fun H locs hP hD hS => ?_)
  have hP : va_P D vwCl [(h0, .inr (8, [.ref q1, .ref q2, .null, .null, .int 0, .int 0, .int 0, .int 0, .int 0])), (q1, .inl (cy 1, 1601, .inl (fun _ => 0))), (q2, .inl (cy 1, 1601, .inl (fun _ => 0)))] H := hP
  have hD : va_D A [(h0, .inr (8, [.ref q1, .ref q2, .null, .null, .int 0, .int 0, .int 0, .int 0, .int 0])), (q1, .inl (cy 1, 1601, .inl (fun _ => 0))), (q2, .inl (cy 1, 1601, .inl (fun _ => 0)))] := hD
  refine lv_aload_n hx hb dX8_init_22 rfl (lv_at hl 0 rfl) ?_
  refine lv_sipush (v := 1601) hx hb dX8_init_23 (by decide) ?_
  refine va_newa (atype := .long) (n := 1601) (a0 := (1601, .inr (.inl (fun _ => 0)))) (ty := .long) hx hb (hT _ t_347) rfl hK hP hD hS hA (fun _ => rfl) (by decide) (by decide) (by decide) (Nat.le_of_ble_eq_true rfl) (Nat.le_of_ble_eq_true rfl) dX8_init_26 (fun q3 cA H hK9 hP hD hS => ?_)
  obtain rfl := ty_same hK9 2 6 rfl rfl
  clear hK9
  have hP : va_P D vwCl [(h0, .inr (8, [.ref q1, .ref q2, .null, .null, .int 0, .int 0, .int 0, .int 0, .int 0])), (q1, .inl (cy 1, 1601, .inl (fun _ => 0))), (q2, .inl (cy 1, 1601, .inl (fun _ => 0))), (q3, .inl (cy 2, 1601, .inr (.inl (fun _ => 0))))] H := hP
  have hD : va_D A [(h0, .inr (8, [.ref q1, .ref q2, .null, .null, .int 0, .int 0, .int 0, .int 0, .int 0])), (q1, .inl (cy 1, 1601, .inl (fun _ => 0))), (q2, .inl (cy 1, 1601, .inl (fun _ => 0))), (q3, .inl (cy 2, 1601, .inr (.inl (fun _ => 0))))] := hD
  refine va_putF (D := D) (ci := 8) (v := .ref q3) (ty := .array .long) (C := RX8) (T := TX8) (N := 9) hx hb hT i_TX8 tyX8 tyX8_ok nmX8 hown hK hP hD hS 0 rfl rfl 2 (by decide) (hT _ t_318) (fun _ h9 => h9) rfl hin rfl (by decide +kernel) rfl rfl (Nat.le_of_ble_eq_true rfl) dX8_init_28 (fun H locs hP hD hS => ?_)
  have hP : va_P D vwCl [(h0, .inr (8, [.ref q1, .ref q2, .ref q3, .null, .int 0, .int 0, .int 0, .int 0, .int 0])), (q1, .inl (cy 1, 1601, .inl (fun _ => 0))), (q2, .inl (cy 1, 1601, .inl (fun _ => 0))), (q3, .inl (cy 2, 1601, .inr (.inl (fun _ => 0))))] H := hP
  have hD : va_D A [(h0, .inr (8, [.ref q1, .ref q2, .ref q3, .null, .int 0, .int 0, .int 0, .int 0, .int 0])), (q1, .inl (cy 1, 1601, .inl (fun _ => 0))), (q2, .inl (cy 1, 1601, .inl (fun _ => 0))), (q3, .inl (cy 2, 1601, .inr (.inl (fun _ => 0))))] := hD
  refine lv_aload_n hx hb dX8_init_31 rfl (lv_at hl 0 rfl) ?_
  refine lv_bipush (v := 19) hx hb dX8_init_32 (by decide) ?_
  refine va_newa (atype := .long) (n := 19) (a0 := (19, .inr (.inl (fun _ => 0)))) (ty := .long) hx hb (hT _ t_347) rfl hK hP hD hS hA (fun _ => rfl) (by decide) (by decide) (by decide) (Nat.le_of_ble_eq_true rfl) (Nat.le_of_ble_eq_true rfl) dX8_init_34 (fun q4 cA H hK9 hP hD hS => ?_)
  obtain rfl := ty_same hK9 2 6 rfl rfl
  clear hK9
  have hP : va_P D vwCl [(h0, .inr (8, [.ref q1, .ref q2, .ref q3, .null, .int 0, .int 0, .int 0, .int 0, .int 0])), (q1, .inl (cy 1, 1601, .inl (fun _ => 0))), (q2, .inl (cy 1, 1601, .inl (fun _ => 0))), (q3, .inl (cy 2, 1601, .inr (.inl (fun _ => 0)))), (q4, .inl (cy 2, 19, .inr (.inl (fun _ => 0))))] H := hP
  have hD : va_D A [(h0, .inr (8, [.ref q1, .ref q2, .ref q3, .null, .int 0, .int 0, .int 0, .int 0, .int 0])), (q1, .inl (cy 1, 1601, .inl (fun _ => 0))), (q2, .inl (cy 1, 1601, .inl (fun _ => 0))), (q3, .inl (cy 2, 1601, .inr (.inl (fun _ => 0)))), (q4, .inl (cy 2, 19, .inr (.inl (fun _ => 0))))] := hD
  refine va_putF (D := D) (ci := 8) (v := .ref q4) (ty := .array .long) (C := RX8) (T := TX8) (N := 9) hx hb hT i_TX8 tyX8 tyX8_ok nmX8 hown hK hP hD hS 0 rfl rfl 3 (by decide) (hT _ t_319) (fun _ h9 => h9) rfl hin rfl (by decide +kernel) rfl rfl (Nat.le_of_ble_eq_true rfl) dX8_init_36 (fun H locs hP hD hS => ?_)
  have hP : va_P D vwCl [(h0, .inr (8, [.ref q1, .ref q2, .ref q3, .ref q4, .int 0, .int 0, .int 0, .int 0, .int 0])), (q1, .inl (cy 1, 1601, .inl (fun _ => 0))), (q2, .inl (cy 1, 1601, .inl (fun _ => 0))), (q3, .inl (cy 2, 1601, .inr (.inl (fun _ => 0)))), (q4, .inl (cy 2, 19, .inr (.inl (fun _ => 0))))] H := hP
  have hD : va_D A [(h0, .inr (8, [.ref q1, .ref q2, .ref q3, .ref q4, .int 0, .int 0, .int 0, .int 0, .int 0])), (q1, .inl (cy 1, 1601, .inl (fun _ => 0))), (q2, .inl (cy 1, 1601, .inl (fun _ => 0))), (q3, .inl (cy 2, 1601, .inr (.inl (fun _ => 0)))), (q4, .inl (cy 2, 19, .inr (.inl (fun _ => 0))))] := hD
  refine lv_iconst (v := 0) hx hb dX8_init_39 (by decide) ?_
  refine lv_istore_n (lv' := [(1, .int 0), (0, .ref h0)]) hx hb dX8_init_40 rfl hl (by decide) rfl (fun ls hl => ?_)
  refine lv_lconst (v := 0) hx hb dX8_init_41 (by decide) ?_
  refine lv_lstore_n (lv' := [(2, .long 0), (1, .int 0), (0, .ref h0)]) hx hb dX8_init_42 rfl hl (by decide) rfl (fun ls hl => ?_)
  refine lv_iconst (v := 0) hx hb dX8_init_43 (by decide) ?_
  refine lv_istore (lv' := [(4, .int 0), (2, .long 0), (1, .int 0), (0, .ref h0)]) hx hb dX8_init_44 hl (by decide) rfl (fun ls hl => ?_)
  have hP := hP.sub (ws' := [(h0, .inr (8, [.ref q1, .ref q2, .ref q3, .ref q4, .int 0, .int 0, .int 0, .int 0, .int 0])), (q1, .inl (cy 1, 1601, .inl (fun _ => 0))), (q2, .inl (cy 1, 1601, .inl (fun _ => 0))), (q4, .inl (cy 2, 19, .inr (.inl (fun _ => 0))))]) [0, 1, 2, 4] rfl
  have hD := hD.sub (ws' := [(h0, .inr (8, [.ref q1, .ref q2, .ref q3, .ref q4, .int 0, .int 0, .int 0, .int 0, .int 0])), (q1, .inl (cy 1, 1601, .inl (fun _ => 0))), (q2, .inl (cy 1, 1601, .inl (fun _ => 0))), (q4, .inl (cy 2, 19, .inr (.inl (fun _ => 0))))]) [0, 1, 2, 4] (by decide) rfl
  refine W.widen (k := 4) (n := 4822) (Nat.le_of_ble_eq_true rfl) (Nat.le_of_ble_eq_true rfl) ?_
  refine loopW (St := Nat × Nat × Int64 × (Nat → Int64)) (fun n st H locs ls => st.1 + n = 105 ∧ st.2.1 ≤ 19 ∧ va_P D vwCl [(h0, .inr (8, [.ref q1, .ref q2, .ref q3, .ref q4, .int 0, .int 0, .int 0, .int 0, .int 0])), (q1, .inl (cy 1, 1601, .inl (fun _ => 0))), (q2, .inl (cy 1, 1601, .inl (fun _ => 0))), (q4, .inl (cy 2, 19, .inr (.inl st.2.2.2)))] H ∧ va_D A [(h0, .inr (8, [.ref q1, .ref q2, .ref q3, .ref q4, .int 0, .int 0, .int 0, .int 0, .int 0])), (q1, .inl (cy 1, 1601, .inl (fun _ => 0))), (q2, .inl (cy 1, 1601, .inl (fun _ => 0))), (q4, .inl (cy 2, 19, .inr (.inl st.2.2.2)))] ∧ va_S A s.heap H locs ∧ lv_has ls 6 [(4, .int (nI st.1)), (2, .long st.2.2.1), (1, .int (nI st.2.1)), (0, .ref h0)]) 46 ?_ ?_ 105 (0, 0, 0, (fun _ => 0)) _ _ ls ⟨rfl, by decide, hP, hD, hS, hl⟩
  · rintro ⟨i, k, x2, fk⟩ H locs ls ⟨hi, hk, hP, hD, hS, hl⟩
    dsimp only at hi hk hP hD hl
    have hP : va_P D vwCl [(h0, .inr (8, [.ref q1, .ref q2, .ref q3, .ref q4, .int 0, .int 0, .int 0, .int 0, .int 0])), (q1, .inl (cy 1, 1601, .inl (fun _ => 0))), (q2, .inl (cy 1, 1601, .inl (fun _ => 0))), (q4, .inl (cy 2, 19, .inr (.inl fk)))] H := hP
    obtain rfl : i = 105 := by omega
    refine lv_iload hx hb dX8_init_46 (lv_at hl 0 rfl) ?_
    refine va_ldcS hx hb hown hG.2.2.1 dX8_init_48 ?_
    have hPc := hP.sub (ws' := []) [] rfl
    have hDc := hD.sub (ws' := []) [] (by decide) rfl
    have hFc := va_free (wc := []) hD hS hA [] rfl
    refine va_calli (va_runV (As := []) (rest := [.int (nI 105)]) ⟨hx, hb, hml, hown, hT⟩ (j_len l D cy H.size tE tK tV s1 s2 s3) (cwV 0 hT (gTBV t_268 t_269 t_270 t_145 t_271) rfl rfl rfl (by decide +kernel) ⟨Nat.le_of_ble_eq_true rfl, Nat.le_of_ble_eq_true rfl⟩) ⟨fun a U g mk q => by obtain ⟨q0, q1, qP, qK, qD, qx0⟩ := q; exact ⟨q0, q1, qP, va_K.moved (u := U) (U := U.calling g mk a) (Vm.Alike.refl U.vm) qK, qD, Gv.calling qx0⟩, hG.recv hS, fun U hU hW => ⟨rfl, by rw [hU], by rw [hU]; exact hPc, va_K.moved hW.alike hK, hDc.weaken (fun _ _ _ _ => trivial), hG.call hS hFc hU hW⟩⟩ rfl rfl hl.1 rfl (lv_room (Nat.le_of_ble_eq_true rfl)) dX8_init_50 ⟨Nat.le_of_ble_eq_true rfl, Nat.le_of_ble_eq_true rfl⟩) hS (fun q _ h => hFc q h) hFc (fun r5 u t H1 locs ht hvm w6 hB hz1 hk1 hS => ?_)
    obtain ⟨hP1, hD1⟩ := hB
    rw [ht] at hP1
    obtain ⟨hP, hD⟩ := va_join (wr := [(h0, .inr (8, [.ref q1, .ref q2, .ref q3, .ref q4, .int 0, .int 0, .int 0, .int 0, .int 0])), (q1, .inl (cy 1, 1601, .inl (fun _ => 0))), (q2, .inl (cy 1, 1601, .inl (fun _ => 0))), (q4, .inl (cy 2, 19, .inr (.inl fk)))]) (w1 := []) hP hD [] [0, 1, 2, 3] rfl rfl (by decide) (by decide) hk1 hFc hP1 hD1
    generalize H1 = H at hP hS ⊢
    have hP : va_P D vwCl [(h0, .inr (8, [.ref q1, .ref q2, .ref q3, .ref q4, .int 0, .int 0, .int 0, .int 0, .int 0])), (q1, .inl (cy 1, 1601, .inl (fun _ => 0))), (q2, .inl (cy 1, 1601, .inl (fun _ => 0))), (q4, .inl (cy 2, 19, .inr (.inl fk)))] H := hP
    have hD : va_D A [(h0, .inr (8, [.ref q1, .ref q2, .ref q3, .ref q4, .int 0, .int 0, .int 0, .int 0, .int 0])), (q1, .inl (cy 1, 1601, .inl (fun _ => 0))), (q2, .inl (cy 1, 1601, .inl (fun _ => 0))), (q4, .inl (cy 2, 19, .inr (.inl fk)))] := hD
    obtain rfl := w6
    refine lv_icmp_ge (tgt := 108) hx hb dX8_init_53 (by decide) (fun _ => ?_) (fun c9 => absurd (by decide) c9)
    have hP9 := hP.sub (ws' := [(h0, .inr (8, [.ref q1, .ref q2, .ref q3, .ref q4, .int 0, .int 0, .int 0, .int 0, .int 0])), (q1, .inl (cy 1, 1601, .inl (fun _ => 0))), (q2, .inl (cy 1, 1601, .inl (fun _ => 0)))]) [0, 1, 2] rfl
    have hD9 := hD.sub (ws' := [(h0, .inr (8, [.ref q1, .ref q2, .ref q3, .ref q4, .int 0, .int 0, .int 0, .int 0, .int 0])), (q1, .inl (cy 1, 1601, .inl (fun _ => 0))), (q2, .inl (cy 1, 1601, .inl (fun _ => 0)))]) [0, 1, 2] (by decide) rfl
    refine W.widen (k := 4) (n := 4822) (Nat.le_of_ble_eq_true rfl) (Nat.le_of_ble_eq_true rfl) ?_
    exact W.vret hx hb hr (fun t ht hW => ⟨⟨(q1, q2, q3, q4), rfl, trivial, by rw [ht]; exact hP9, hD9⟩, hS.F ht⟩) hS.2.2 dX8_init_108
  · rintro n ⟨i, k, x2, fk⟩ H locs ls ⟨hi, hk, hP, hD, hS, hl⟩ ih
    dsimp only at hi hk hP hD hl
    have hP : va_P D vwCl [(h0, .inr (8, [.ref q1, .ref q2, .ref q3, .ref q4, .int 0, .int 0, .int 0, .int 0, .int 0])), (q1, .inl (cy 1, 1601, .inl (fun _ => 0))), (q2, .inl (cy 1, 1601, .inl (fun _ => 0))), (q4, .inl (cy 2, 19, .inr (.inl fk)))] H := hP
    refine lv_iload hx hb dX8_init_46 (lv_at hl 0 rfl) ?_
    refine va_ldcS hx hb hown hG.2.2.1 dX8_init_48 ?_
    have hPc := hP.sub (ws' := []) [] rfl
    have hDc := hD.sub (ws' := []) [] (by decide) rfl
    have hFc := va_free (wc := []) hD hS hA [] rfl
    refine va_calli (va_runV (As := []) (rest := [.int (nI i)]) ⟨hx, hb, hml, hown, hT⟩ (j_len l D cy H.size tE tK tV s1 s2 s3) (cwV 0 hT (gTBV t_268 t_269 t_270 t_145 t_271) rfl rfl rfl (by decide +kernel) ⟨Nat.le_of_ble_eq_true rfl, Nat.le_of_ble_eq_true rfl⟩) ⟨fun a U g mk q => by obtain ⟨q0, q1, qP, qK, qD, qx0⟩ := q; exact ⟨q0, q1, qP, va_K.moved (u := U) (U := U.calling g mk a) (Vm.Alike.refl U.vm) qK, qD, Gv.calling qx0⟩, hG.recv hS, fun U hU hW => ⟨rfl, by rw [hU], by rw [hU]; exact hPc, va_K.moved hW.alike hK, hDc.weaken (fun _ _ _ _ => trivial), hG.call hS hFc hU hW⟩⟩ rfl rfl hl.1 rfl (lv_room (Nat.le_of_ble_eq_true rfl)) dX8_init_50 ⟨Nat.le_of_ble_eq_true rfl, Nat.le_of_ble_eq_true rfl⟩) hS (fun q _ h => hFc q h) hFc (fun r7 u t H1 locs ht hvm w8 hB hz1 hk1 hS => ?_)
    obtain ⟨hP1, hD1⟩ := hB
    rw [ht] at hP1
    obtain ⟨hP, hD⟩ := va_join (wr := [(h0, .inr (8, [.ref q1, .ref q2, .ref q3, .ref q4, .int 0, .int 0, .int 0, .int 0, .int 0])), (q1, .inl (cy 1, 1601, .inl (fun _ => 0))), (q2, .inl (cy 1, 1601, .inl (fun _ => 0))), (q4, .inl (cy 2, 19, .inr (.inl fk)))]) (w1 := []) hP hD [] [0, 1, 2, 3] rfl rfl (by decide) (by decide) hk1 hFc hP1 hD1
    generalize H1 = H at hP hS ⊢
    have hP : va_P D vwCl [(h0, .inr (8, [.ref q1, .ref q2, .ref q3, .ref q4, .int 0, .int 0, .int 0, .int 0, .int 0])), (q1, .inl (cy 1, 1601, .inl (fun _ => 0))), (q2, .inl (cy 1, 1601, .inl (fun _ => 0))), (q4, .inl (cy 2, 19, .inr (.inl fk)))] H := hP
    have hD : va_D A [(h0, .inr (8, [.ref q1, .ref q2, .ref q3, .ref q4, .int 0, .int 0, .int 0, .int 0, .int 0])), (q1, .inl (cy 1, 1601, .inl (fun _ => 0))), (q2, .inl (cy 1, 1601, .inl (fun _ => 0))), (q4, .inl (cy 2, 19, .inr (.inl fk)))] := hD
    obtain rfl := w8
    refine lv_icmp_ge (tgt := 108) hx hb dX8_init_53 (by decide) (fun c9 => absurd c9 (nI_ge (a := i) (b := 105) (by omega) (by decide))) (fun _ => ?_)
    refine va_ldcS hx hb hown hG.2.2.1 dX8_init_56 ?_
    refine lv_iload hx hb dX8_init_58 (lv_at hl 0 rfl) ?_
    have hPc := hP.sub (ws' := []) [] rfl
    have hDc := hD.sub (ws' := []) [] (by decide) rfl
    have hFc := va_free (wc := []) hD hS hA [] rfl
    refine va_calli (va_runV (As := [.int (nI i)]) (rest := []) ⟨hx, hb, hml, hown, hT⟩ (j_charAt l D cy H.size tE tK tV s1 s2 s3 (nI i) (nI_pos (by omega)) (nI_lt (a := i) (b := 105) (by omega) (by decide)) (vp_in_nI (by omega) (by decide))) (cwV 1 hT (gTBV t_278 t_279 t_280 t_145 t_281) rfl rfl rfl (by decide +kernel) ⟨Nat.le_of_ble_eq_true rfl, Nat.le_of_ble_eq_true rfl⟩) ⟨fun a U g mk q => by obtain ⟨q0, q1, qP, qK, qD, qx0⟩ := q; exact ⟨q0, q1, qP, va_K.moved (u := U) (U := U.calling g mk a) (Vm.Alike.refl U.vm) qK, qD, Gv.calling qx0⟩, hG.recv hS, fun U hU hW => ⟨rfl, by rw [hU], by rw [hU]; exact hPc, va_K.moved hW.alike hK, hDc.weaken (fun _ _ _ _ => trivial), hG.call hS hFc hU hW⟩⟩ rfl rfl hl.1 rfl (lv_room (Nat.le_of_ble_eq_true rfl)) dX8_init_60 ⟨Nat.le_of_ble_eq_true rfl, Nat.le_of_ble_eq_true rfl⟩) hS (fun q _ h => hFc q h) hFc (fun r9 u t H1 locs ht hvm w10 hB hz1 hk1 hS => ?_)
    obtain ⟨hP1, hD1⟩ := hB
    rw [ht] at hP1
    obtain ⟨hP, hD⟩ := va_join (wr := [(h0, .inr (8, [.ref q1, .ref q2, .ref q3, .ref q4, .int 0, .int 0, .int 0, .int 0, .int 0])), (q1, .inl (cy 1, 1601, .inl (fun _ => 0))), (q2, .inl (cy 1, 1601, .inl (fun _ => 0))), (q4, .inl (cy 2, 19, .inr (.inl fk)))]) (w1 := []) hP hD [] [0, 1, 2, 3] rfl rfl (by decide) (by decide) hk1 hFc hP1 hD1
    generalize H1 = H at hP hS ⊢
    have hP : va_P D vwCl [(h0, .inr (8, [.ref q1, .ref q2, .ref q3, .ref q4, .int 0, .int 0, .int 0, .int 0, .int 0])), (q1, .inl (cy 1, 1601, .inl (fun _ => 0))), (q2, .inl (cy 1, 1601, .inl (fun _ => 0))), (q4, .inl (cy 2, 19, .inr (.inl fk)))] H := hP
    have hD : va_D A [(h0, .inr (8, [.ref q1, .ref q2, .ref q3, .ref q4, .int 0, .int 0, .int 0, .int 0, .int 0])), (q1, .inl (cy 1, 1601, .inl (fun _ => 0))), (q2, .inl (cy 1, 1601, .inl (fun _ => 0))), (q4, .inl (cy 2, 19, .inr (.inl fk)))] := hD
    refine lv_istore (lv' := [(5, .int r9), (4, .int (nI i)), (2, .long x2), (1, .int (nI k)), (0, .ref h0)]) hx hb dX8_init_63 hl (by decide) rfl (fun ls hl => ?_)
    refine lv_iload hx hb dX8_init_65 (lv_at hl 0 rfl) ?_
    refine lv_bipush (v := 32) hx hb dX8_init_67 (by decide) ?_
    refine lv_icmp_eq (tgt := 84) hx hb dX8_init_69 (by decide) (fun c11 => ?_) (fun c11 => ?_)
    · refine lv_iload_n hx hb dX8_init_84 rfl (lv_at hl 3 rfl) ?_
      refine lv_bipush (v := 19) hx hb dX8_init_85 (by decide) ?_
      refine lv_icmp_ge (tgt := 102) hx hb dX8_init_87 (by decide) (fun c12 => ?_) (fun c12 => ?_)
      · obtain ⟨z13, e14⟩ : ∃ y : Int32, y = (nI i) + 1 := ⟨_, rfl⟩
        refine lv_iinc (v := z13) (lv' := [(4, .int z13), (5, .int r9), (2, .long x2), (1, .int (nI k)), (0, .ref h0)]) hx hb dX8_init_102 hl (k := 1) rfl (by rw [e14]; rfl) (by decide) rfl (fun ls hl => ?_)
        obtain rfl : z13 = nI (i + 1) := e14.trans (nI_1 i)
        refine lv_goto (tgt := 46) hx hb dX8_init_105 (by decide) ?_
        exact ih (i + 1, k, x2, fk) H locs ls ⟨show i + 1 + n = 105 by omega, hk, hP, hD, hS, lv_sub hl [0, 2, 3, 4] rfl⟩
      · have hk2 : k < 19 := by
          rcases Nat.lt_or_ge k 19 with q | q
          · exact q
          · exact absurd (nI_le (a := 19) (b := k) q (by omega)) c12
        refine lv_aload_n hx hb dX8_init_90 rfl (lv_at hl 4 rfl) ?_
        refine va_get (D := D) (ci := 8) (v := .ref q4) (C := RX8) (T := TX8) (N := 9) hx hb hT i_TX8 hown hK hP 0 rfl rfl 3 (by decide) (hT _ t_319) (fun _ h9 => h9) rfl dX8_init_91 ?_
        refine lv_iload_n hx hb dX8_init_94 rfl (lv_at hl 3 rfl) ?_
        refine lv_lload_n hx hb dX8_init_95 rfl (lv_at hl 2 rfl) ?_
        refine va_last hx hb hK hP hD hS 3 2 rfl rfl (vp_in_nI hk2 (by decide)) dX8_init_96 (fun H locs hP hD hS => ?_)
        have hP : va_P D vwCl [(h0, .inr (8, [.ref q1, .ref q2, .ref q3, .ref q4, .int 0, .int 0, .int 0, .int 0, .int 0])), (q1, .inl (cy 1, 1601, .inl (fun _ => 0))), (q2, .inl (cy 1, 1601, .inl (fun _ => 0))), (q4, .inl (cy 2, 19, .inr (.inl (vp_updL fk ((nI k) : Int32).toNatClampNeg x2))))] H := hP
        have hD : va_D A [(h0, .inr (8, [.ref q1, .ref q2, .ref q3, .ref q4, .int 0, .int 0, .int 0, .int 0, .int 0])), (q1, .inl (cy 1, 1601, .inl (fun _ => 0))), (q2, .inl (cy 1, 1601, .inl (fun _ => 0))), (q4, .inl (cy 2, 19, .inr (.inl (vp_updL fk ((nI k) : Int32).toNatClampNeg x2))))] := hD
        generalize hff15 : (vp_updL fk ((nI k) : Int32).toNatClampNeg x2) = f15 at hP hD
        obtain ⟨z16, e17⟩ : ∃ y : Int32, y = (nI k) + 1 := ⟨_, rfl⟩
        refine lv_iinc (v := z16) (lv' := [(1, .int z16), (5, .int r9), (4, .int (nI i)), (2, .long x2), (0, .ref h0)]) hx hb dX8_init_97 hl (k := 3) rfl (by rw [e17]; rfl) (by decide) rfl (fun ls hl => ?_)
        obtain rfl : z16 = nI (k + 1) := e17.trans (nI_1 k)
        refine lv_lconst (v := 0) hx hb dX8_init_100 (by decide) ?_
        refine lv_lstore_n (lv' := [(2, .long 0), (1, .int (nI (k + 1))), (5, .int r9), (4, .int (nI i)), (0, .ref h0)]) hx hb dX8_init_101 rfl hl (by decide) rfl (fun ls hl => ?_)
        obtain ⟨z18, e19⟩ : ∃ y : Int32, y = (nI i) + 1 := ⟨_, rfl⟩
        refine lv_iinc (v := z18) (lv' := [(4, .int z18), (2, .long 0), (1, .int (nI (k + 1))), (5, .int r9), (0, .ref h0)]) hx hb dX8_init_102 hl (k := 3) rfl (by rw [e19]; rfl) (by decide) rfl (fun ls hl => ?_)
        obtain rfl : z18 = nI (i + 1) := e19.trans (nI_1 i)
        refine lv_goto (tgt := 46) hx hb dX8_init_105 (by decide) ?_
        exact ih (i + 1, (k + 1), 0, f15) H locs ls ⟨show i + 1 + n = 105 by omega, (show k + 1 ≤ 19 by omega), hP, hD, hS, lv_sub hl [0, 1, 2, 4] rfl⟩
    · refine lv_lload_n hx hb dX8_init_72 rfl (lv_at hl 2 rfl) ?_
      refine lv_bipush (v := 8) hx hb dX8_init_73 (by decide) ?_
      refine lv_lshl hx hb dX8_init_75 rfl ?_
      refine lv_topl (fun z20 e21 => ?_)
      refine lv_iload hx hb dX8_init_76 (lv_at hl 0 rfl) ?_
      refine lv_i2l hx hb dX8_init_78 rfl ?_
      refine lv_topl (fun z22 e23 => ?_)
      refine lv_lor hx hb dX8_init_79 ?_
      refine lv_topl (fun z24 e25 => ?_)
      refine lv_lstore_n (lv' := [(2, .long z24), (5, .int r9), (4, .int (nI i)), (1, .int (nI k)), (0, .ref h0)]) hx hb dX8_init_80 rfl hl (by decide) rfl (fun ls hl => ?_)
      refine lv_goto (tgt := 102) hx hb dX8_init_81 (by decide) ?_
      obtain ⟨z26, e27⟩ : ∃ y : Int32, y = (nI i) + 1 := ⟨_, rfl⟩
      refine lv_iinc (v := z26) (lv' := [(4, .int z26), (2, .long z24), (5, .int r9), (1, .int (nI k)), (0, .ref h0)]) hx hb dX8_init_102 hl (k := 2) rfl (by rw [e27]; rfl) (by decide) rfl (fun ls hl => ?_)
      obtain rfl : z26 = nI (i + 1) := e27.trans (nI_1 i)
      refine lv_goto (tgt := 46) hx hb dX8_init_105 (by decide) ?_
      exact ih (i + 1, k, z24, fk) H locs ls ⟨show i + 1 + n = 105 by omega, hk, hP, hD, hS, lv_sub hl [0, 1, 3, 4] rfl⟩

set_option maxHeartbeats 4000000 in
set_option maxRecDepth 100000 in
theorem j_fill (l : Launch) (D : va_G) (cy : Nat → ClassId) (sz : Nat) (h0 : Nat) (N : Nat) (f0 : Nat → Int32) (hN : N < 2 ^ 31) : Met l yJ7_fill_53178 (.code yJ7_fill_53178 cJ7_fill_53178 4 none :: TB) ({ frames := 0, cells := 0, slots := 0, locals := 0 }) (va_Pc [.ref h0, .int 0] (fun U => U.heap.size = sz ∧ va_P D vwCl [(h0, .inl (cy 1, N, .inl f0))] U.heap ∧ va_K D vwCl (TY cy) U ∧ va_D (fun _ => True) [(h0, .inl (cy 1, N, .inl f0))])) (va_Qv (fun (u : Nat → Int32) => True) (fun (u : Nat → Int32) t => va_P D vwCl [(h0, .inl (cy 1, N, .inl u))] t.heap ∧ va_D (va_A [(h0, .inl (cy 1, N, .inl f0))] sz) [(h0, .inl (cy 1, N, .inl u))]) (va_A [(h0, .inl (cy 1, N, .inl f0))] sz)) 0 0 (va_A [(h0, .inl (cy 1, N, .inl f0))] sz) := by
  refine Met.ofW (cc := cJ7_fill_53178) (maxL := 4) (ret := none) (by decide) rfl ?_
  intro p e s m args below meth c s₁ B hml hv
  obtain ⟨rfl, hsz, hP, hK, hD0⟩ := hv
  have hx := B.exec
  have hb := B.bytes
  have hr := B.returns
  have hts := atoms_spec (ws := .code yJ7_fill_53178 cJ7_fill_53178 4 none :: TB) B.pre
  have hT : ∀ w ∈ TB, w.before _ s = true := fun w h => hts w (List.mem_cons_of_mem _ h)
  have hown : s.vm.findClass "java/util/Arrays" = some m.cls := findClass_of_methodNamed B.named
  have hlocks := B.notSynchronized
  subst hsz
  have hD := hD0.self (sz := s.heap.size)
  generalize hAe : va_A [(h0, .inl (cy 1, N, .inl f0))] s.heap.size = A at hD  ⊢
  have hA : ∀ q : Nat, s.heap.size ≤ q → A q := fun q h => by rw [← hAe]; exact Or.inr h
  have hS : va_S A s.heap s.heap [] := va_S.rf
  have hP : va_P D vwCl [(h0, .inl (cy 1, N, .inl f0))] s.heap := hP
  have hl := lv_entry ([.ref h0, .int 0]) (n := 4) (Nat.le_of_ble_eq_true rfl)
  rw [lg_entry_eq]
  generalize (lg_sl ([.ref h0, .int 0]) ++ List.replicate (4 - (lg_sl ([.ref h0, .int 0])).length) Slot.unset).toArray = ls at hl ⊢
  have hl : lv_has ls 4 [(0, .ref h0), (1, .int 0)] := hl
  refine lv_iconst (v := 0) hx hb dJ7_fill_53178_0 (by decide) ?_
  refine lv_istore_n (lv' := [(2, .int 0), (0, .ref h0), (1, .int 0)]) hx hb dJ7_fill_53178_1 rfl hl (by decide) rfl (fun ls hl => ?_)
  refine lv_aload_n hx hb dJ7_fill_53178_2 rfl (lv_at hl 1 rfl) ?_
  refine va_alen (v := nI N) hx hb hK hP 0 1 rfl rfl rfl dJ7_fill_53178_3 ?_
  refine lv_istore_n (lv' := [(3, .int (nI N)), (2, .int 0), (0, .ref h0), (1, .int 0)]) hx hb dJ7_fill_53178_4 rfl hl (by decide) rfl (fun ls hl => ?_)
  refine loopW (St := Nat × (Nat → Int32)) (fun n st H locs ls => st.1 + n = N ∧ va_P D vwCl [(h0, .inl (cy 1, N, .inl st.2))] H ∧ va_D A [(h0, .inl (cy 1, N, .inl st.2))] ∧ va_S A s.heap H locs ∧ lv_has ls 4 [(3, .int (nI N)), (2, .int (nI st.1)), (0, .ref h0), (1, .int 0)]) 5 ?_ ?_ N (0, f0) _ _ ls ⟨Nat.zero_add N, hP, hD, hS, hl⟩
  · rintro ⟨i, fk⟩ H locs ls ⟨hi, hP, hD, hS, hl⟩
    dsimp only at hi hP hD hl
    obtain rfl : i = N := by omega
    refine lv_iload_n hx hb dJ7_fill_53178_5 rfl (lv_at hl 1 rfl) ?_
    refine lv_iload_n hx hb dJ7_fill_53178_6 rfl (lv_at hl 0 rfl) ?_
    refine lv_icmp_ge (tgt := 20) hx hb dJ7_fill_53178_7 (by decide) (fun _ => ?_) (fun c9 => absurd (nI_le (Nat.le_refl i) hN) c9)
    have hP9 := hP.sub (ws' := [(h0, .inl (cy 1, i, .inl fk))]) [0] rfl
    have hD9 := hD.sub (ws' := [(h0, .inl (cy 1, i, .inl fk))]) [0] (by decide) rfl
    refine W.widen (k := 0) (n := 0) (Nat.le_of_ble_eq_true rfl) (Nat.le_of_ble_eq_true rfl) ?_
    exact W.vret hx hb hr (fun t ht hW => ⟨⟨fk, rfl, trivial, by rw [ht]; exact hP9, hD9⟩, hS.F ht⟩) hS.2.2 dJ7_fill_53178_20
  · rintro n ⟨i, fk⟩ H locs ls ⟨hi, hP, hD, hS, hl⟩ ih
    dsimp only at hi hP hD hl
    refine lv_iload_n hx hb dJ7_fill_53178_5 rfl (lv_at hl 1 rfl) ?_
    refine lv_iload_n hx hb dJ7_fill_53178_6 rfl (lv_at hl 0 rfl) ?_
    refine lv_icmp_ge (tgt := 20) hx hb dJ7_fill_53178_7 (by decide) (fun c9 => absurd c9 (nI_ge (a := i) (b := N) (by omega) hN)) (fun _ => ?_)
    refine lv_aload_n hx hb dJ7_fill_53178_10 rfl (lv_at hl 2 rfl) ?_
    refine lv_iload_n hx hb dJ7_fill_53178_11 rfl (lv_at hl 1 rfl) ?_
    refine lv_iload_n hx hb dJ7_fill_53178_12 rfl (lv_at hl 3 rfl) ?_
    refine va_iast hx hb hK hP hD hS 0 1 rfl rfl (vp_in_nI (by omega) hN) dJ7_fill_53178_13 (fun H locs hP hD hS => ?_)
    have hP : va_P D vwCl [(h0, .inl (cy 1, N, .inl (upd fk ((nI i) : Int32).toNatClampNeg 0)))] H := hP
    have hD : va_D A [(h0, .inl (cy 1, N, .inl (upd fk ((nI i) : Int32).toNatClampNeg 0)))] := hD
    generalize hff1 : (upd fk ((nI i) : Int32).toNatClampNeg 0) = f1 at hP hD
    obtain ⟨z2, e3⟩ : ∃ y : Int32, y = (nI i) + 1 := ⟨_, rfl⟩
    refine lv_iinc (v := z2) (lv' := [(2, .int z2), (3, .int (nI N)), (0, .ref h0), (1, .int 0)]) hx hb dJ7_fill_53178_14 hl (k := 1) rfl (by rw [e3]; rfl) (by decide) rfl (fun ls hl => ?_)
    obtain rfl : z2 = nI (i + 1) := e3.trans (nI_1 i)
    refine lv_goto (tgt := 5) hx hb dJ7_fill_53178_17 (by decide) ?_
    exact ih (i + 1, f1) H locs ls ⟨show i + 1 + n = N by omega, hP, hD, hS, lv_sub hl [1, 0, 2, 3] rfl⟩
