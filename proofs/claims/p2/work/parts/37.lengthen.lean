theorem t_596 : (Jvm.Cond.constantLong "MakerStarts$Tokens" (73 : Nat) (10 : Int64)) ∈ TB := inTB 596 (by decide +kernel) (by decide +kernel)
theorem dX8_lengthen_0 : decode cX8_lengthen 0 = .ok (.aload_n 0, 1) := by decide +kernel
theorem dX8_lengthen_1 : decode cX8_lengthen 1 = .ok (.getfield 37, 3) := by decide +kernel
theorem dX8_lengthen_4 : decode cX8_lengthen 4 = .ok (.iconst 1, 1) := by decide +kernel
theorem dX8_lengthen_5 : decode cX8_lengthen 5 = .ok (.isub, 1) := by decide +kernel
theorem dX8_lengthen_6 : decode cX8_lengthen 6 = .ok (.istore_n 2, 1) := by decide +kernel
theorem dX8_lengthen_7 : decode cX8_lengthen 7 = .ok (.iload_n 2, 1) := by decide +kernel
theorem dX8_lengthen_8 : decode cX8_lengthen 8 = .ok (.ifCond .ge 4, 3) := by decide +kernel
theorem dX8_lengthen_11 : decode cX8_lengthen 11 = .ok (.return_, 1) := by decide +kernel
theorem dX8_lengthen_12 : decode cX8_lengthen 12 = .ok (.aload_n 0, 1) := by decide +kernel
theorem dX8_lengthen_13 : decode cX8_lengthen 13 = .ok (.dup, 1) := by decide +kernel
theorem dX8_lengthen_14 : decode cX8_lengthen 14 = .ok (.getfield 41, 3) := by decide +kernel
theorem dX8_lengthen_17 : decode cX8_lengthen 17 = .ok (.iconst 1, 1) := by decide +kernel
theorem dX8_lengthen_18 : decode cX8_lengthen 18 = .ok (.iadd, 1) := by decide +kernel
theorem dX8_lengthen_19 : decode cX8_lengthen 19 = .ok (.putfield 41, 3) := by decide +kernel
theorem dX8_lengthen_22 : decode cX8_lengthen 22 = .ok (.aload_n 0, 1) := by decide +kernel
theorem dX8_lengthen_23 : decode cX8_lengthen 23 = .ok (.getfield 9, 3) := by decide +kernel
theorem dX8_lengthen_26 : decode cX8_lengthen 26 = .ok (.iload_n 2, 1) := by decide +kernel
theorem dX8_lengthen_27 : decode cX8_lengthen 27 = .ok (.iaload, 1) := by decide +kernel
theorem dX8_lengthen_28 : decode cX8_lengthen 28 = .ok (.iconst 3, 1) := by decide +kernel
theorem dX8_lengthen_29 : decode cX8_lengthen 29 = .ok (.if_icmp .ne 28, 3) := by decide +kernel
theorem dX8_lengthen_32 : decode cX8_lengthen 32 = .ok (.aload_n 0, 1) := by decide +kernel
theorem dX8_lengthen_33 : decode cX8_lengthen 33 = .ok (.getfield 18, 3) := by decide +kernel
theorem dX8_lengthen_36 : decode cX8_lengthen 36 = .ok (.iload_n 2, 1) := by decide +kernel
theorem dX8_lengthen_37 : decode cX8_lengthen 37 = .ok (.aload_n 0, 1) := by decide +kernel
theorem dX8_lengthen_38 : decode cX8_lengthen 38 = .ok (.getfield 18, 3) := by decide +kernel
theorem dX8_lengthen_41 : decode cX8_lengthen 41 = .ok (.iload_n 2, 1) := by decide +kernel
theorem dX8_lengthen_42 : decode cX8_lengthen 42 = .ok (.laload, 1) := by decide +kernel
theorem dX8_lengthen_43 : decode cX8_lengthen 43 = .ok (.ldc2_w 73, 3) := by decide +kernel
theorem dX8_lengthen_46 : decode cX8_lengthen 46 = .ok (.lmul, 1) := by decide +kernel
theorem dX8_lengthen_47 : decode cX8_lengthen 47 = .ok (.iload_n 1, 1) := by decide +kernel
theorem dX8_lengthen_48 : decode cX8_lengthen 48 = .ok (.bipush 48, 2) := by decide +kernel
theorem dX8_lengthen_50 : decode cX8_lengthen 50 = .ok (.isub, 1) := by decide +kernel
theorem dX8_lengthen_51 : decode cX8_lengthen 51 = .ok (.i2l, 1) := by decide +kernel
theorem dX8_lengthen_52 : decode cX8_lengthen 52 = .ok (.ladd, 1) := by decide +kernel
theorem dX8_lengthen_53 : decode cX8_lengthen 53 = .ok (.lastore, 1) := by decide +kernel
theorem dX8_lengthen_54 : decode cX8_lengthen 54 = .ok (.goto 21, 3) := by decide +kernel
theorem dX8_lengthen_57 : decode cX8_lengthen 57 = .ok (.aload_n 0, 1) := by decide +kernel
theorem dX8_lengthen_58 : decode cX8_lengthen 58 = .ok (.getfield 18, 3) := by decide +kernel
theorem dX8_lengthen_61 : decode cX8_lengthen 61 = .ok (.iload_n 2, 1) := by decide +kernel
theorem dX8_lengthen_62 : decode cX8_lengthen 62 = .ok (.aload_n 0, 1) := by decide +kernel
theorem dX8_lengthen_63 : decode cX8_lengthen 63 = .ok (.getfield 18, 3) := by decide +kernel
theorem dX8_lengthen_66 : decode cX8_lengthen 66 = .ok (.iload_n 2, 1) := by decide +kernel
theorem dX8_lengthen_67 : decode cX8_lengthen 67 = .ok (.laload, 1) := by decide +kernel
theorem dX8_lengthen_68 : decode cX8_lengthen 68 = .ok (.bipush 8, 2) := by decide +kernel
theorem dX8_lengthen_70 : decode cX8_lengthen 70 = .ok (.lshl, 1) := by decide +kernel
theorem dX8_lengthen_71 : decode cX8_lengthen 71 = .ok (.iload_n 1, 1) := by decide +kernel
theorem dX8_lengthen_72 : decode cX8_lengthen 72 = .ok (.i2l, 1) := by decide +kernel
theorem dX8_lengthen_73 : decode cX8_lengthen 73 = .ok (.lor, 1) := by decide +kernel
theorem dX8_lengthen_74 : decode cX8_lengthen 74 = .ok (.lastore, 1) := by decide +kernel
theorem dX8_lengthen_75 : decode cX8_lengthen 75 = .ok (.aload_n 0, 1) := by decide +kernel
theorem dX8_lengthen_76 : decode cX8_lengthen 76 = .ok (.getfield 41, 3) := by decide +kernel
theorem dX8_lengthen_79 : decode cX8_lengthen 79 = .ok (.aload_n 0, 1) := by decide +kernel
theorem dX8_lengthen_80 : decode cX8_lengthen 80 = .ok (.getfield 9, 3) := by decide +kernel
theorem dX8_lengthen_83 : decode cX8_lengthen 83 = .ok (.iload_n 2, 1) := by decide +kernel
theorem dX8_lengthen_84 : decode cX8_lengthen 84 = .ok (.iaload, 1) := by decide +kernel
theorem dX8_lengthen_85 : decode cX8_lengthen 85 = .ok (.iconst 3, 1) := by decide +kernel
theorem dX8_lengthen_86 : decode cX8_lengthen 86 = .ok (.if_icmp .ne 8, 3) := by decide +kernel
theorem dX8_lengthen_89 : decode cX8_lengthen 89 = .ok (.bipush 9, 2) := by decide +kernel
theorem dX8_lengthen_91 : decode cX8_lengthen 91 = .ok (.goto 5, 3) := by decide +kernel
theorem dX8_lengthen_94 : decode cX8_lengthen 94 = .ok (.bipush 8, 2) := by decide +kernel
theorem dX8_lengthen_96 : decode cX8_lengthen 96 = .ok (.if_icmp .le 10, 3) := by decide +kernel
theorem dX8_lengthen_99 : decode cX8_lengthen 99 = .ok (.aload_n 0, 1) := by decide +kernel
theorem dX8_lengthen_100 : decode cX8_lengthen 100 = .ok (.getfield 9, 3) := by decide +kernel
theorem dX8_lengthen_103 : decode cX8_lengthen 103 = .ok (.iload_n 2, 1) := by decide +kernel
theorem dX8_lengthen_104 : decode cX8_lengthen 104 = .ok (.iconst 1, 1) := by decide +kernel
theorem dX8_lengthen_105 : decode cX8_lengthen 105 = .ok (.iastore, 1) := by decide +kernel
theorem dX8_lengthen_106 : decode cX8_lengthen 106 = .ok (.return_, 1) := by decide +kernel
set_option maxHeartbeats 4000000 in
set_option maxRecDepth 100000 in
theorem g_lengthen (l : Launch) (D : va_G) (cy : Nat → ClassId) (sz : Nat) (h0 : Nat) (a1 : Nat) (a2 : Nat) (a3 : Nat) (a4 : Nat) (kf : Nat → Int32) (pf : Nat → Int32) (wf : Nat → Int64) (cn : Nat) (ln : Int32) (at0 : Nat) (fa : Int32) (fp : Int32) (p0 : Int32) (hc : cn ≤ 1600) (ha : at0 ≤ cn) : Met l yX8_lengthen (.code yX8_lengthen cX8_lengthen 3 none :: TB) ({ frames := 0, cells := 0, slots := 0, locals := 0 }) (va_Pc [.ref h0, .int p0] (fun U => U.heap.size = sz ∧ va_P D vwCl [(h0, .inr (8, [.ref a1, .ref a2, .ref a3, .ref a4, .int (nI cn), .int ln, .int (nI at0), .int fa, .int fp])), (a1, .inl (cy 1, 1601, .inl kf)), (a2, .inl (cy 1, 1601, .inl pf)), (a3, .inl (cy 2, 1601, .inr (.inl wf)))] U.heap ∧ va_K D vwCl (TY cy) U ∧ va_D (fun _ => True) [(h0, .inr (8, [.ref a1, .ref a2, .ref a3, .ref a4, .int (nI cn), .int ln, .int (nI at0), .int fa, .int fp])), (a1, .inl (cy 1, 1601, .inl kf)), (a2, .inl (cy 1, 1601, .inl pf)), (a3, .inl (cy 2, 1601, .inr (.inl wf)))])) (va_Qv (fun (u : Int32 × (Nat → Int32) × (Nat → Int64)) => True) (fun (u : Int32 × (Nat → Int32) × (Nat → Int64)) t => va_P D vwCl [(h0, .inr (8, [.ref a1, .ref a2, .ref a3, .ref a4, .int (nI cn), .int u.1, .int (nI at0), .int fa, .int fp])), (a1, .inl (cy 1, 1601, .inl u.2.1)), (a2, .inl (cy 1, 1601, .inl pf)), (a3, .inl (cy 2, 1601, .inr (.inl u.2.2)))] t.heap ∧ va_D (va_A [(h0, .inr (8, [.ref a1, .ref a2, .ref a3, .ref a4, .int (nI cn), .int ln, .int (nI at0), .int fa, .int fp])), (a1, .inl (cy 1, 1601, .inl kf)), (a2, .inl (cy 1, 1601, .inl pf)), (a3, .inl (cy 2, 1601, .inr (.inl wf)))] sz) [(h0, .inr (8, [.ref a1, .ref a2, .ref a3, .ref a4, .int (nI cn), .int u.1, .int (nI at0), .int fa, .int fp])), (a1, .inl (cy 1, 1601, .inl u.2.1)), (a2, .inl (cy 1, 1601, .inl pf)), (a3, .inl (cy 2, 1601, .inr (.inl u.2.2)))]) (va_A [(h0, .inr (8, [.ref a1, .ref a2, .ref a3, .ref a4, .int (nI cn), .int ln, .int (nI at0), .int fa, .int fp])), (a1, .inl (cy 1, 1601, .inl kf)), (a2, .inl (cy 1, 1601, .inl pf)), (a3, .inl (cy 2, 1601, .inr (.inl wf)))] sz)) 0 0 (va_A [(h0, .inr (8, [.ref a1, .ref a2, .ref a3, .ref a4, .int (nI cn), .int ln, .int (nI at0), .int fa, .int fp])), (a1, .inl (cy 1, 1601, .inl kf)), (a2, .inl (cy 1, 1601, .inl pf)), (a3, .inl (cy 2, 1601, .inr (.inl wf)))] sz) := by
  refine Met.ofW (cc := cX8_lengthen) (maxL := 3) (ret := none) (by decide) rfl ?_
  intro p e s m args below meth c s₁ B hml hv
  obtain ⟨rfl, hsz, hP, hK, hD0⟩ := hv
  have hx := B.exec
  have hb := B.bytes
  have hr := B.returns
  have hts := atoms_spec (ws := .code yX8_lengthen cX8_lengthen 3 none :: TB) B.pre
  have hT : ∀ w ∈ TB, w.before _ s = true := fun w h => hts w (List.mem_cons_of_mem _ h)
  have hown : s.vm.findClass "MakerStarts$Tokens" = some m.cls := findClass_of_methodNamed B.named
  have hlocks := B.notSynchronized
  subst hsz
  have hD := hD0.self (sz := s.heap.size)
  generalize hAe : va_A [(h0, .inr (8, [.ref a1, .ref a2, .ref a3, .ref a4, .int (nI cn), .int ln, .int (nI at0), .int fa, .int fp])), (a1, .inl (cy 1, 1601, .inl kf)), (a2, .inl (cy 1, 1601, .inl pf)), (a3, .inl (cy 2, 1601, .inr (.inl wf)))] s.heap.size = A at hD  ⊢
  have hA : ∀ q : Nat, s.heap.size ≤ q → A q := fun q h => by rw [← hAe]; exact Or.inr h
  have hS : va_S A s.heap s.heap [] := va_S.rf
  have hP : va_P D vwCl [(h0, .inr (8, [.ref a1, .ref a2, .ref a3, .ref a4, .int (nI cn), .int ln, .int (nI at0), .int fa, .int fp])), (a1, .inl (cy 1, 1601, .inl kf)), (a2, .inl (cy 1, 1601, .inl pf)), (a3, .inl (cy 2, 1601, .inr (.inl wf)))] s.heap := hP
  have hl := lv_entry ([.ref h0, .int p0]) (n := 3) (Nat.le_of_ble_eq_true rfl)
  rw [lg_entry_eq]
  generalize (lg_sl ([.ref h0, .int p0]) ++ List.replicate (3 - (lg_sl ([.ref h0, .int p0])).length) Slot.unset).toArray = ls at hl ⊢
  have hl : lv_has ls 3 [(0, .ref h0), (1, .int p0)] := hl
  refine lv_aload_n hx hb dX8_lengthen_0 rfl (lv_at hl 0 rfl) ?_
  refine va_get (D := D) (ci := 8) (v := .int (nI cn)) (C := RX8) (T := TX8) (N := 9) hx hb hT i_TX8 hown hK hP 0 rfl rfl 4 (by decide) (hT _ t_320) (fun _ h9 => h9) rfl dX8_lengthen_1 ?_
  refine lv_iconst (v := 1) hx hb dX8_lengthen_4 (by decide) ?_
  refine lv_isub hx hb dX8_lengthen_5 ?_
  refine lv_topi (fun z1 e2 => ?_)
  refine lv_istore_n (lv' := [(2, .int z1), (0, .ref h0), (1, .int p0)]) hx hb dX8_lengthen_6 rfl hl (by decide) rfl (fun ls hl => ?_)
  refine lv_iload_n hx hb dX8_lengthen_7 rfl (lv_at hl 0 rfl) ?_
  refine lv_if_ge (tgt := 12) hx hb dX8_lengthen_8 (by decide) (fun c3 => ?_) (fun c3 => ?_)
  · have hin : vp_in z1 1601 := by
      cases cn with
      | zero => exact absurd c3 (by rw [e2]; decide)
      | succ k => rw [e2, nI_pred]; exact vp_in_nI (by omega) (by decide)
    refine lv_aload_n hx hb dX8_lengthen_12 rfl (lv_at hl 1 rfl) ?_
    refine lv_dup hx hb dX8_lengthen_13 rfl ?_
    refine va_get (D := D) (ci := 8) (v := .int ln) (C := RX8) (T := TX8) (N := 9) hx hb hT i_TX8 hown hK hP 0 rfl rfl 5 (by decide) (hT _ t_321) (fun _ h9 => h9) rfl dX8_lengthen_14 ?_
    refine lv_iconst (v := 1) hx hb dX8_lengthen_17 (by decide) ?_
    refine lv_iadd hx hb dX8_lengthen_18 ?_
    refine lv_topi (fun z4 e5 => ?_)
    refine va_put (D := D) (ci := 8) (v := .int z4) (ty := .int) (C := RX8) (T := TX8) (N := 9) hx hb hT i_TX8 tyX8 tyX8_ok nmX8 hown hK hP hD hS 0 rfl rfl 5 (by decide) (hT _ t_321) (fun _ h9 => h9) rfl (by decide +kernel) rfl rfl (Nat.le_of_ble_eq_true rfl) dX8_lengthen_19 (fun H locs hP hD hS => ?_)
    have hP : va_P D vwCl [(h0, .inr (8, [.ref a1, .ref a2, .ref a3, .ref a4, .int (nI cn), .int z4, .int (nI at0), .int fa, .int fp])), (a1, .inl (cy 1, 1601, .inl kf)), (a2, .inl (cy 1, 1601, .inl pf)), (a3, .inl (cy 2, 1601, .inr (.inl wf)))] H := hP
    have hD : va_D A [(h0, .inr (8, [.ref a1, .ref a2, .ref a3, .ref a4, .int (nI cn), .int z4, .int (nI at0), .int fa, .int fp])), (a1, .inl (cy 1, 1601, .inl kf)), (a2, .inl (cy 1, 1601, .inl pf)), (a3, .inl (cy 2, 1601, .inr (.inl wf)))] := hD
    refine lv_aload_n hx hb dX8_lengthen_22 rfl (lv_at hl 1 rfl) ?_
    refine va_get (D := D) (ci := 8) (v := .ref a1) (C := RX8) (T := TX8) (N := 9) hx hb hT i_TX8 hown hK hP 0 rfl rfl 0 (by decide) (hT _ t_316) (fun _ h9 => h9) rfl dX8_lengthen_23 ?_
    refine lv_iload_n hx hb dX8_lengthen_26 rfl (lv_at hl 0 rfl) ?_
    refine va_iald hx hb hK hP 1 1 rfl rfl hin dX8_lengthen_27 ?_
    refine lv_topi (fun z6 e7 => ?_)
    refine lv_iconst (v := 3) hx hb dX8_lengthen_28 (by decide) ?_
    refine lv_icmp_ne (tgt := 57) hx hb dX8_lengthen_29 (by decide) (fun c8 => ?_) (fun c8 => ?_)
    · refine lv_aload_n hx hb dX8_lengthen_57 rfl (lv_at hl 1 rfl) ?_
      refine va_get (D := D) (ci := 8) (v := .ref a3) (C := RX8) (T := TX8) (N := 9) hx hb hT i_TX8 hown hK hP 0 rfl rfl 2 (by decide) (hT _ t_318) (fun _ h9 => h9) rfl dX8_lengthen_58 ?_
      refine lv_iload_n hx hb dX8_lengthen_61 rfl (lv_at hl 0 rfl) ?_
      refine lv_aload_n hx hb dX8_lengthen_62 rfl (lv_at hl 1 rfl) ?_
      refine va_get (D := D) (ci := 8) (v := .ref a3) (C := RX8) (T := TX8) (N := 9) hx hb hT i_TX8 hown hK hP 0 rfl rfl 2 (by decide) (hT _ t_318) (fun _ h9 => h9) rfl dX8_lengthen_63 ?_
      refine lv_iload_n hx hb dX8_lengthen_66 rfl (lv_at hl 0 rfl) ?_
      refine va_lald hx hb hK hP 3 2 rfl rfl hin dX8_lengthen_67 ?_
      refine lv_topl (fun z9 e10 => ?_)
      refine lv_bipush (v := 8) hx hb dX8_lengthen_68 (by decide) ?_
      refine lv_lshl hx hb dX8_lengthen_70 rfl ?_
      refine lv_topl (fun z11 e12 => ?_)
      refine lv_iload_n hx hb dX8_lengthen_71 rfl (lv_at hl 2 rfl) ?_
      refine lv_i2l hx hb dX8_lengthen_72 rfl ?_
      refine lv_topl (fun z13 e14 => ?_)
      refine lv_lor hx hb dX8_lengthen_73 ?_
      refine lv_topl (fun z15 e16 => ?_)
      refine va_last hx hb hK hP hD hS 3 2 rfl rfl hin dX8_lengthen_74 (fun H locs hP hD hS => ?_)
      have hP : va_P D vwCl [(h0, .inr (8, [.ref a1, .ref a2, .ref a3, .ref a4, .int (nI cn), .int z4, .int (nI at0), .int fa, .int fp])), (a1, .inl (cy 1, 1601, .inl kf)), (a2, .inl (cy 1, 1601, .inl pf)), (a3, .inl (cy 2, 1601, .inr (.inl (vp_updL wf (z1 : Int32).toNatClampNeg z15))))] H := hP
      have hD : va_D A [(h0, .inr (8, [.ref a1, .ref a2, .ref a3, .ref a4, .int (nI cn), .int z4, .int (nI at0), .int fa, .int fp])), (a1, .inl (cy 1, 1601, .inl kf)), (a2, .inl (cy 1, 1601, .inl pf)), (a3, .inl (cy 2, 1601, .inr (.inl (vp_updL wf (z1 : Int32).toNatClampNeg z15))))] := hD
      generalize hff17 : (vp_updL wf (z1 : Int32).toNatClampNeg z15) = f17 at hP hD
      refine lv_aload_n hx hb dX8_lengthen_75 rfl (lv_at hl 1 rfl) ?_
      refine va_get (D := D) (ci := 8) (v := .int z4) (C := RX8) (T := TX8) (N := 9) hx hb hT i_TX8 hown hK hP 0 rfl rfl 5 (by decide) (hT _ t_321) (fun _ h9 => h9) rfl dX8_lengthen_76 ?_
      refine lv_aload_n hx hb dX8_lengthen_79 rfl (lv_at hl 1 rfl) ?_
      refine va_get (D := D) (ci := 8) (v := .ref a1) (C := RX8) (T := TX8) (N := 9) hx hb hT i_TX8 hown hK hP 0 rfl rfl 0 (by decide) (hT _ t_316) (fun _ h9 => h9) rfl dX8_lengthen_80 ?_
      refine lv_iload_n hx hb dX8_lengthen_83 rfl (lv_at hl 0 rfl) ?_
      refine va_iald hx hb hK hP 1 1 rfl rfl hin dX8_lengthen_84 ?_
      refine lv_topi (fun z18 e19 => ?_)
      refine lv_iconst (v := 3) hx hb dX8_lengthen_85 (by decide) ?_
      refine lv_icmp_ne (tgt := 94) hx hb dX8_lengthen_86 (by decide) (fun c20 => ?_) (fun c20 => ?_)
      · refine lv_bipush (v := 8) hx hb dX8_lengthen_94 (by decide) ?_
        refine lv_icmp_le (tgt := 106) hx hb dX8_lengthen_96 (by decide) (fun c21 => ?_) (fun c21 => ?_)
        · have hP9 := hP.sub (ws' := [(h0, .inr (8, [.ref a1, .ref a2, .ref a3, .ref a4, .int (nI cn), .int z4, .int (nI at0), .int fa, .int fp])), (a1, .inl (cy 1, 1601, .inl kf)), (a2, .inl (cy 1, 1601, .inl pf)), (a3, .inl (cy 2, 1601, .inr (.inl f17)))]) [0, 1, 2, 3] rfl
          have hD9 := hD.sub (ws' := [(h0, .inr (8, [.ref a1, .ref a2, .ref a3, .ref a4, .int (nI cn), .int z4, .int (nI at0), .int fa, .int fp])), (a1, .inl (cy 1, 1601, .inl kf)), (a2, .inl (cy 1, 1601, .inl pf)), (a3, .inl (cy 2, 1601, .inr (.inl f17)))]) [0, 1, 2, 3] (by decide) rfl
          refine W.widen (k := 0) (n := 0) (Nat.le_of_ble_eq_true rfl) (Nat.le_of_ble_eq_true rfl) ?_
          exact W.vret hx hb hr (fun t ht hW => ⟨⟨(z4, kf, f17), rfl, trivial, by rw [ht]; exact hP9, hD9⟩, hS.F ht⟩) hS.2.2 dX8_lengthen_106
        · refine lv_aload_n hx hb dX8_lengthen_99 rfl (lv_at hl 1 rfl) ?_
          refine va_get (D := D) (ci := 8) (v := .ref a1) (C := RX8) (T := TX8) (N := 9) hx hb hT i_TX8 hown hK hP 0 rfl rfl 0 (by decide) (hT _ t_316) (fun _ h9 => h9) rfl dX8_lengthen_100 ?_
          refine lv_iload_n hx hb dX8_lengthen_103 rfl (lv_at hl 0 rfl) ?_
          refine lv_iconst (v := 1) hx hb dX8_lengthen_104 (by decide) ?_
          refine va_iast hx hb hK hP hD hS 1 1 rfl rfl hin dX8_lengthen_105 (fun H locs hP hD hS => ?_)
          have hP : va_P D vwCl [(h0, .inr (8, [.ref a1, .ref a2, .ref a3, .ref a4, .int (nI cn), .int z4, .int (nI at0), .int fa, .int fp])), (a1, .inl (cy 1, 1601, .inl (upd kf (z1 : Int32).toNatClampNeg 1))), (a2, .inl (cy 1, 1601, .inl pf)), (a3, .inl (cy 2, 1601, .inr (.inl f17)))] H := hP
          have hD : va_D A [(h0, .inr (8, [.ref a1, .ref a2, .ref a3, .ref a4, .int (nI cn), .int z4, .int (nI at0), .int fa, .int fp])), (a1, .inl (cy 1, 1601, .inl (upd kf (z1 : Int32).toNatClampNeg 1))), (a2, .inl (cy 1, 1601, .inl pf)), (a3, .inl (cy 2, 1601, .inr (.inl f17)))] := hD
          generalize hff22 : (upd kf (z1 : Int32).toNatClampNeg 1) = f22 at hP hD
          have hP9 := hP.sub (ws' := [(h0, .inr (8, [.ref a1, .ref a2, .ref a3, .ref a4, .int (nI cn), .int z4, .int (nI at0), .int fa, .int fp])), (a1, .inl (cy 1, 1601, .inl f22)), (a2, .inl (cy 1, 1601, .inl pf)), (a3, .inl (cy 2, 1601, .inr (.inl f17)))]) [0, 1, 2, 3] rfl
          have hD9 := hD.sub (ws' := [(h0, .inr (8, [.ref a1, .ref a2, .ref a3, .ref a4, .int (nI cn), .int z4, .int (nI at0), .int fa, .int fp])), (a1, .inl (cy 1, 1601, .inl f22)), (a2, .inl (cy 1, 1601, .inl pf)), (a3, .inl (cy 2, 1601, .inr (.inl f17)))]) [0, 1, 2, 3] (by decide) rfl
          refine W.widen (k := 0) (n := 0) (Nat.le_of_ble_eq_true rfl) (Nat.le_of_ble_eq_true rfl) ?_
          exact W.vret hx hb hr (fun t ht hW => ⟨⟨(z4, f22, f17), rfl, trivial, by rw [ht]; exact hP9, hD9⟩, hS.F ht⟩) hS.2.2 dX8_lengthen_106
      · refine lv_bipush (v := 9) hx hb dX8_lengthen_89 (by decide) ?_
        refine lv_goto (tgt := 96) hx hb dX8_lengthen_91 (by decide) ?_
        refine lv_icmp_le (tgt := 106) hx hb dX8_lengthen_96 (by decide) (fun c23 => ?_) (fun c23 => ?_)
        · have hP9 := hP.sub (ws' := [(h0, .inr (8, [.ref a1, .ref a2, .ref a3, .ref a4, .int (nI cn), .int z4, .int (nI at0), .int fa, .int fp])), (a1, .inl (cy 1, 1601, .inl kf)), (a2, .inl (cy 1, 1601, .inl pf)), (a3, .inl (cy 2, 1601, .inr (.inl f17)))]) [0, 1, 2, 3] rfl
          have hD9 := hD.sub (ws' := [(h0, .inr (8, [.ref a1, .ref a2, .ref a3, .ref a4, .int (nI cn), .int z4, .int (nI at0), .int fa, .int fp])), (a1, .inl (cy 1, 1601, .inl kf)), (a2, .inl (cy 1, 1601, .inl pf)), (a3, .inl (cy 2, 1601, .inr (.inl f17)))]) [0, 1, 2, 3] (by decide) rfl
          refine W.widen (k := 0) (n := 0) (Nat.le_of_ble_eq_true rfl) (Nat.le_of_ble_eq_true rfl) ?_
          exact W.vret hx hb hr (fun t ht hW => ⟨⟨(z4, kf, f17), rfl, trivial, by rw [ht]; exact hP9, hD9⟩, hS.F ht⟩) hS.2.2 dX8_lengthen_106
        · refine lv_aload_n hx hb dX8_lengthen_99 rfl (lv_at hl 1 rfl) ?_
          refine va_get (D := D) (ci := 8) (v := .ref a1) (C := RX8) (T := TX8) (N := 9) hx hb hT i_TX8 hown hK hP 0 rfl rfl 0 (by decide) (hT _ t_316) (fun _ h9 => h9) rfl dX8_lengthen_100 ?_
          refine lv_iload_n hx hb dX8_lengthen_103 rfl (lv_at hl 0 rfl) ?_
          refine lv_iconst (v := 1) hx hb dX8_lengthen_104 (by decide) ?_
          refine va_iast hx hb hK hP hD hS 1 1 rfl rfl hin dX8_lengthen_105 (fun H locs hP hD hS => ?_)
          have hP : va_P D vwCl [(h0, .inr (8, [.ref a1, .ref a2, .ref a3, .ref a4, .int (nI cn), .int z4, .int (nI at0), .int fa, .int fp])), (a1, .inl (cy 1, 1601, .inl (upd kf (z1 : Int32).toNatClampNeg 1))), (a2, .inl (cy 1, 1601, .inl pf)), (a3, .inl (cy 2, 1601, .inr (.inl f17)))] H := hP
          have hD : va_D A [(h0, .inr (8, [.ref a1, .ref a2, .ref a3, .ref a4, .int (nI cn), .int z4, .int (nI at0), .int fa, .int fp])), (a1, .inl (cy 1, 1601, .inl (upd kf (z1 : Int32).toNatClampNeg 1))), (a2, .inl (cy 1, 1601, .inl pf)), (a3, .inl (cy 2, 1601, .inr (.inl f17)))] := hD
          generalize hff24 : (upd kf (z1 : Int32).toNatClampNeg 1) = f24 at hP hD
          have hP9 := hP.sub (ws' := [(h0, .inr (8, [.ref a1, .ref a2, .ref a3, .ref a4, .int (nI cn), .int z4, .int (nI at0), .int fa, .int fp])), (a1, .inl (cy 1, 1601, .inl f24)), (a2, .inl (cy 1, 1601, .inl pf)), (a3, .inl (cy 2, 1601, .inr (.inl f17)))]) [0, 1, 2, 3] rfl
          have hD9 := hD.sub (ws' := [(h0, .inr (8, [.ref a1, .ref a2, .ref a3, .ref a4, .int (nI cn), .int z4, .int (nI at0), .int fa, .int fp])), (a1, .inl (cy 1, 1601, .inl f24)), (a2, .inl (cy 1, 1601, .inl pf)), (a3, .inl (cy 2, 1601, .inr (.inl f17)))]) [0, 1, 2, 3] (by decide) rfl
          refine W.widen (k := 0) (n := 0) (Nat.le_of_ble_eq_true rfl) (Nat.le_of_ble_eq_true rfl) ?_
          exact W.vret hx hb hr (fun t ht hW => ⟨⟨(z4, f24, f17), rfl, trivial, by rw [ht]; exact hP9, hD9⟩, hS.F ht⟩) hS.2.2 dX8_lengthen_106
    · refine lv_aload_n hx hb dX8_lengthen_32 rfl (lv_at hl 1 rfl) ?_
      refine va_get (D := D) (ci := 8) (v := .ref a3) (C := RX8) (T := TX8) (N := 9) hx hb hT i_TX8 hown hK hP 0 rfl rfl 2 (by decide) (hT _ t_318) (fun _ h9 => h9) rfl dX8_lengthen_33 ?_
      refine lv_iload_n hx hb dX8_lengthen_36 rfl (lv_at hl 0 rfl) ?_
      refine lv_aload_n hx hb dX8_lengthen_37 rfl (lv_at hl 1 rfl) ?_
      refine va_get (D := D) (ci := 8) (v := .ref a3) (C := RX8) (T := TX8) (N := 9) hx hb hT i_TX8 hown hK hP 0 rfl rfl 2 (by decide) (hT _ t_318) (fun _ h9 => h9) rfl dX8_lengthen_38 ?_
      refine lv_iload_n hx hb dX8_lengthen_41 rfl (lv_at hl 0 rfl) ?_
      refine va_lald hx hb hK hP 3 2 rfl rfl hin dX8_lengthen_42 ?_
      refine lv_topl (fun z25 e26 => ?_)
      refine lv_ldc2 hx hb hown (hT _ t_596) dX8_lengthen_43 ?_
      refine lv_lmul hx hb dX8_lengthen_46 ?_
      refine lv_topl (fun z27 e28 => ?_)
      refine lv_iload_n hx hb dX8_lengthen_47 rfl (lv_at hl 2 rfl) ?_
      refine lv_bipush (v := 48) hx hb dX8_lengthen_48 (by decide) ?_
      refine lv_isub hx hb dX8_lengthen_50 ?_
      refine lv_topi (fun z29 e30 => ?_)
      refine lv_i2l hx hb dX8_lengthen_51 rfl ?_
      refine lv_topl (fun z31 e32 => ?_)
      refine lv_ladd hx hb dX8_lengthen_52 ?_
      refine lv_topl (fun z33 e34 => ?_)
      refine va_last hx hb hK hP hD hS 3 2 rfl rfl hin dX8_lengthen_53 (fun H locs hP hD hS => ?_)
      have hP : va_P D vwCl [(h0, .inr (8, [.ref a1, .ref a2, .ref a3, .ref a4, .int (nI cn), .int z4, .int (nI at0), .int fa, .int fp])), (a1, .inl (cy 1, 1601, .inl kf)), (a2, .inl (cy 1, 1601, .inl pf)), (a3, .inl (cy 2, 1601, .inr (.inl (vp_updL wf (z1 : Int32).toNatClampNeg z33))))] H := hP
      have hD : va_D A [(h0, .inr (8, [.ref a1, .ref a2, .ref a3, .ref a4, .int (nI cn), .int z4, .int (nI at0), .int fa, .int fp])), (a1, .inl (cy 1, 1601, .inl kf)), (a2, .inl (cy 1, 1601, .inl pf)), (a3, .inl (cy 2, 1601, .inr (.inl (vp_updL wf (z1 : Int32).toNatClampNeg z33))))] := hD
      generalize hff35 : (vp_updL wf (z1 : Int32).toNatClampNeg z33) = f35 at hP hD
      refine lv_goto (tgt := 75) hx hb dX8_lengthen_54 (by decide) ?_
      refine lv_aload_n hx hb dX8_lengthen_75 rfl (lv_at hl 1 rfl) ?_
      refine va_get (D := D) (ci := 8) (v := .int z4) (C := RX8) (T := TX8) (N := 9) hx hb hT i_TX8 hown hK hP 0 rfl rfl 5 (by decide) (hT _ t_321) (fun _ h9 => h9) rfl dX8_lengthen_76 ?_
      refine lv_aload_n hx hb dX8_lengthen_79 rfl (lv_at hl 1 rfl) ?_
      refine va_get (D := D) (ci := 8) (v := .ref a1) (C := RX8) (T := TX8) (N := 9) hx hb hT i_TX8 hown hK hP 0 rfl rfl 0 (by decide) (hT _ t_316) (fun _ h9 => h9) rfl dX8_lengthen_80 ?_
      refine lv_iload_n hx hb dX8_lengthen_83 rfl (lv_at hl 0 rfl) ?_
      refine va_iald hx hb hK hP 1 1 rfl rfl hin dX8_lengthen_84 ?_
      refine lv_topi (fun z36 e37 => ?_)
      refine lv_iconst (v := 3) hx hb dX8_lengthen_85 (by decide) ?_
      refine lv_icmp_ne (tgt := 94) hx hb dX8_lengthen_86 (by decide) (fun c38 => ?_) (fun c38 => ?_)
      · refine lv_bipush (v := 8) hx hb dX8_lengthen_94 (by decide) ?_
        refine lv_icmp_le (tgt := 106) hx hb dX8_lengthen_96 (by decide) (fun c39 => ?_) (fun c39 => ?_)
        · have hP9 := hP.sub (ws' := [(h0, .inr (8, [.ref a1, .ref a2, .ref a3, .ref a4, .int (nI cn), .int z4, .int (nI at0), .int fa, .int fp])), (a1, .inl (cy 1, 1601, .inl kf)), (a2, .inl (cy 1, 1601, .inl pf)), (a3, .inl (cy 2, 1601, .inr (.inl f35)))]) [0, 1, 2, 3] rfl
          have hD9 := hD.sub (ws' := [(h0, .inr (8, [.ref a1, .ref a2, .ref a3, .ref a4, .int (nI cn), .int z4, .int (nI at0), .int fa, .int fp])), (a1, .inl (cy 1, 1601, .inl kf)), (a2, .inl (cy 1, 1601, .inl pf)), (a3, .inl (cy 2, 1601, .inr (.inl f35)))]) [0, 1, 2, 3] (by decide) rfl
          refine W.widen (k := 0) (n := 0) (Nat.le_of_ble_eq_true rfl) (Nat.le_of_ble_eq_true rfl) ?_
          exact W.vret hx hb hr (fun t ht hW => ⟨⟨(z4, kf, f35), rfl, trivial, by rw [ht]; exact hP9, hD9⟩, hS.F ht⟩) hS.2.2 dX8_lengthen_106
        · refine lv_aload_n hx hb dX8_lengthen_99 rfl (lv_at hl 1 rfl) ?_
          refine va_get (D := D) (ci := 8) (v := .ref a1) (C := RX8) (T := TX8) (N := 9) hx hb hT i_TX8 hown hK hP 0 rfl rfl 0 (by decide) (hT _ t_316) (fun _ h9 => h9) rfl dX8_lengthen_100 ?_
          refine lv_iload_n hx hb dX8_lengthen_103 rfl (lv_at hl 0 rfl) ?_
          refine lv_iconst (v := 1) hx hb dX8_lengthen_104 (by decide) ?_
          refine va_iast hx hb hK hP hD hS 1 1 rfl rfl hin dX8_lengthen_105 (fun H locs hP hD hS => ?_)
          have hP : va_P D vwCl [(h0, .inr (8, [.ref a1, .ref a2, .ref a3, .ref a4, .int (nI cn), .int z4, .int (nI at0), .int fa, .int fp])), (a1, .inl (cy 1, 1601, .inl (upd kf (z1 : Int32).toNatClampNeg 1))), (a2, .inl (cy 1, 1601, .inl pf)), (a3, .inl (cy 2, 1601, .inr (.inl f35)))] H := hP
          have hD : va_D A [(h0, .inr (8, [.ref a1, .ref a2, .ref a3, .ref a4, .int (nI cn), .int z4, .int (nI at0), .int fa, .int fp])), (a1, .inl (cy 1, 1601, .inl (upd kf (z1 : Int32).toNatClampNeg 1))), (a2, .inl (cy 1, 1601, .inl pf)), (a3, .inl (cy 2, 1601, .inr (.inl f35)))] := hD
          generalize hff40 : (upd kf (z1 : Int32).toNatClampNeg 1) = f40 at hP hD
          have hP9 := hP.sub (ws' := [(h0, .inr (8, [.ref a1, .ref a2, .ref a3, .ref a4, .int (nI cn), .int z4, .int (nI at0), .int fa, .int fp])), (a1, .inl (cy 1, 1601, .inl f40)), (a2, .inl (cy 1, 1601, .inl pf)), (a3, .inl (cy 2, 1601, .inr (.inl f35)))]) [0, 1, 2, 3] rfl
          have hD9 := hD.sub (ws' := [(h0, .inr (8, [.ref a1, .ref a2, .ref a3, .ref a4, .int (nI cn), .int z4, .int (nI at0), .int fa, .int fp])), (a1, .inl (cy 1, 1601, .inl f40)), (a2, .inl (cy 1, 1601, .inl pf)), (a3, .inl (cy 2, 1601, .inr (.inl f35)))]) [0, 1, 2, 3] (by decide) rfl
          refine W.widen (k := 0) (n := 0) (Nat.le_of_ble_eq_true rfl) (Nat.le_of_ble_eq_true rfl) ?_
          exact W.vret hx hb hr (fun t ht hW => ⟨⟨(z4, f40, f35), rfl, trivial, by rw [ht]; exact hP9, hD9⟩, hS.F ht⟩) hS.2.2 dX8_lengthen_106
      · refine lv_bipush (v := 9) hx hb dX8_lengthen_89 (by decide) ?_
        refine lv_goto (tgt := 96) hx hb dX8_lengthen_91 (by decide) ?_
        refine lv_icmp_le (tgt := 106) hx hb dX8_lengthen_96 (by decide) (fun c41 => ?_) (fun c41 => ?_)
        · have hP9 := hP.sub (ws' := [(h0, .inr (8, [.ref a1, .ref a2, .ref a3, .ref a4, .int (nI cn), .int z4, .int (nI at0), .int fa, .int fp])), (a1, .inl (cy 1, 1601, .inl kf)), (a2, .inl (cy 1, 1601, .inl pf)), (a3, .inl (cy 2, 1601, .inr (.inl f35)))]) [0, 1, 2, 3] rfl
          have hD9 := hD.sub (ws' := [(h0, .inr (8, [.ref a1, .ref a2, .ref a3, .ref a4, .int (nI cn), .int z4, .int (nI at0), .int fa, .int fp])), (a1, .inl (cy 1, 1601, .inl kf)), (a2, .inl (cy 1, 1601, .inl pf)), (a3, .inl (cy 2, 1601, .inr (.inl f35)))]) [0, 1, 2, 3] (by decide) rfl
          refine W.widen (k := 0) (n := 0) (Nat.le_of_ble_eq_true rfl) (Nat.le_of_ble_eq_true rfl) ?_
          exact W.vret hx hb hr (fun t ht hW => ⟨⟨(z4, kf, f35), rfl, trivial, by rw [ht]; exact hP9, hD9⟩, hS.F ht⟩) hS.2.2 dX8_lengthen_106
        · refine lv_aload_n hx hb dX8_lengthen_99 rfl (lv_at hl 1 rfl) ?_
          refine va_get (D := D) (ci := 8) (v := .ref a1) (C := RX8) (T := TX8) (N := 9) hx hb hT i_TX8 hown hK hP 0 rfl rfl 0 (by decide) (hT _ t_316) (fun _ h9 => h9) rfl dX8_lengthen_100 ?_
          refine lv_iload_n hx hb dX8_lengthen_103 rfl (lv_at hl 0 rfl) ?_
          refine lv_iconst (v := 1) hx hb dX8_lengthen_104 (by decide) ?_
          refine va_iast hx hb hK hP hD hS 1 1 rfl rfl hin dX8_lengthen_105 (fun H locs hP hD hS => ?_)
          have hP : va_P D vwCl [(h0, .inr (8, [.ref a1, .ref a2, .ref a3, .ref a4, .int (nI cn), .int z4, .int (nI at0), .int fa, .int fp])), (a1, .inl (cy 1, 1601, .inl (upd kf (z1 : Int32).toNatClampNeg 1))), (a2, .inl (cy 1, 1601, .inl pf)), (a3, .inl (cy 2, 1601, .inr (.inl f35)))] H := hP
          have hD : va_D A [(h0, .inr (8, [.ref a1, .ref a2, .ref a3, .ref a4, .int (nI cn), .int z4, .int (nI at0), .int fa, .int fp])), (a1, .inl (cy 1, 1601, .inl (upd kf (z1 : Int32).toNatClampNeg 1))), (a2, .inl (cy 1, 1601, .inl pf)), (a3, .inl (cy 2, 1601, .inr (.inl f35)))] := hD
          generalize hff42 : (upd kf (z1 : Int32).toNatClampNeg 1) = f42 at hP hD
          have hP9 := hP.sub (ws' := [(h0, .inr (8, [.ref a1, .ref a2, .ref a3, .ref a4, .int (nI cn), .int z4, .int (nI at0), .int fa, .int fp])), (a1, .inl (cy 1, 1601, .inl f42)), (a2, .inl (cy 1, 1601, .inl pf)), (a3, .inl (cy 2, 1601, .inr (.inl f35)))]) [0, 1, 2, 3] rfl
          have hD9 := hD.sub (ws' := [(h0, .inr (8, [.ref a1, .ref a2, .ref a3, .ref a4, .int (nI cn), .int z4, .int (nI at0), .int fa, .int fp])), (a1, .inl (cy 1, 1601, .inl f42)), (a2, .inl (cy 1, 1601, .inl pf)), (a3, .inl (cy 2, 1601, .inr (.inl f35)))]) [0, 1, 2, 3] (by decide) rfl
          refine W.widen (k := 0) (n := 0) (Nat.le_of_ble_eq_true rfl) (Nat.le_of_ble_eq_true rfl) ?_
          exact W.vret hx hb hr (fun t ht hW => ⟨⟨(z4, f42, f35), rfl, trivial, by rw [ht]; exact hP9, hD9⟩, hS.F ht⟩) hS.2.2 dX8_lengthen_106
  · have hP9 := hP.sub (ws' := [(h0, .inr (8, [.ref a1, .ref a2, .ref a3, .ref a4, .int (nI cn), .int ln, .int (nI at0), .int fa, .int fp])), (a1, .inl (cy 1, 1601, .inl kf)), (a2, .inl (cy 1, 1601, .inl pf)), (a3, .inl (cy 2, 1601, .inr (.inl wf)))]) [0, 1, 2, 3] rfl
    have hD9 := hD.sub (ws' := [(h0, .inr (8, [.ref a1, .ref a2, .ref a3, .ref a4, .int (nI cn), .int ln, .int (nI at0), .int fa, .int fp])), (a1, .inl (cy 1, 1601, .inl kf)), (a2, .inl (cy 1, 1601, .inl pf)), (a3, .inl (cy 2, 1601, .inr (.inl wf)))]) [0, 1, 2, 3] (by decide) rfl
    refine W.widen (k := 0) (n := 0) (Nat.le_of_ble_eq_true rfl) (Nat.le_of_ble_eq_true rfl) ?_
    exact W.vret hx hb hr (fun t ht hW => ⟨⟨(ln, kf, wf), rfl, trivial, by rw [ht]; exact hP9, hD9⟩, hS.F ht⟩) hS.2.2 dX8_lengthen_11
