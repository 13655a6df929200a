theorem t_586 : (Jvm.Cond.methodLink "MakerStarts$Tokens" (67 : Nat) ({ cls := "MakerStarts$Tokens", name := "isDigit", desc := "(I)Z" } : Jvm.MethodName)) ∈ TB := inTB 586 (by decide +kernel) (by decide +kernel)
theorem t_587 : (Jvm.Cond.static ({ cls := "MakerStarts$Tokens", name := "isDigit", desc := "(I)Z" } : Jvm.MethodName)) ∈ TB := inTB 587 (by decide +kernel) (by decide +kernel)
theorem t_588 : (Jvm.Cond.code ({ cls := "MakerStarts$Tokens", name := "isDigit", desc := "(I)Z" } : Jvm.MethodName) prog_10_method_7_code (1 : Nat) (Option.some Jvm.ClassFile.FieldType.boolean)) ∈ TB := inTB 588 (by decide +kernel) (by decide +kernel)
theorem t_589 : (Jvm.Cond.methodLink "MakerStarts$Tokens" (70 : Nat) ({ cls := "MakerStarts$Tokens", name := "isLetter", desc := "(I)Z" } : Jvm.MethodName)) ∈ TB := inTB 589 (by decide +kernel) (by decide +kernel)
theorem t_590 : (Jvm.Cond.static ({ cls := "MakerStarts$Tokens", name := "isLetter", desc := "(I)Z" } : Jvm.MethodName)) ∈ TB := inTB 590 (by decide +kernel) (by decide +kernel)
theorem t_591 : (Jvm.Cond.code ({ cls := "MakerStarts$Tokens", name := "isLetter", desc := "(I)Z" } : Jvm.MethodName) prog_10_method_8_code (1 : Nat) (Option.some Jvm.ClassFile.FieldType.boolean)) ∈ TB := inTB 591 (by decide +kernel) (by decide +kernel)
theorem dX8_goesOn_0 : decode cX8_goesOn 0 = .ok (.aload_n 0, 1) := by decide +kernel
theorem dX8_goesOn_1 : decode cX8_goesOn 1 = .ok (.getfield 41, 3) := by decide +kernel
theorem dX8_goesOn_4 : decode cX8_goesOn 4 = .ok (.ifCond .le 43, 3) := by decide +kernel
theorem dX8_goesOn_7 : decode cX8_goesOn 7 = .ok (.aload_n 0, 1) := by decide +kernel
theorem dX8_goesOn_8 : decode cX8_goesOn 8 = .ok (.getfield 37, 3) := by decide +kernel
theorem dX8_goesOn_11 : decode cX8_goesOn 11 = .ok (.ifCond .le 36, 3) := by decide +kernel
theorem dX8_goesOn_14 : decode cX8_goesOn 14 = .ok (.iload_n 1, 1) := by decide +kernel
theorem dX8_goesOn_15 : decode cX8_goesOn 15 = .ok (.invokestatic 67, 3) := by decide +kernel
theorem dX8_goesOn_18 : decode cX8_goesOn 18 = .ok (.ifCond .ne 25, 3) := by decide +kernel
theorem dX8_goesOn_21 : decode cX8_goesOn 21 = .ok (.aload_n 0, 1) := by decide +kernel
theorem dX8_goesOn_22 : decode cX8_goesOn 22 = .ok (.getfield 9, 3) := by decide +kernel
theorem dX8_goesOn_25 : decode cX8_goesOn 25 = .ok (.aload_n 0, 1) := by decide +kernel
theorem dX8_goesOn_26 : decode cX8_goesOn 26 = .ok (.getfield 37, 3) := by decide +kernel
theorem dX8_goesOn_29 : decode cX8_goesOn 29 = .ok (.iconst 1, 1) := by decide +kernel
theorem dX8_goesOn_30 : decode cX8_goesOn 30 = .ok (.isub, 1) := by decide +kernel
theorem dX8_goesOn_31 : decode cX8_goesOn 31 = .ok (.iaload, 1) := by decide +kernel
theorem dX8_goesOn_32 : decode cX8_goesOn 32 = .ok (.iconst 2, 1) := by decide +kernel
theorem dX8_goesOn_33 : decode cX8_goesOn 33 = .ok (.if_icmp .ne 14, 3) := by decide +kernel
theorem dX8_goesOn_36 : decode cX8_goesOn 36 = .ok (.iload_n 1, 1) := by decide +kernel
theorem dX8_goesOn_37 : decode cX8_goesOn 37 = .ok (.invokestatic 70, 3) := by decide +kernel
theorem dX8_goesOn_40 : decode cX8_goesOn 40 = .ok (.ifCond .eq 7, 3) := by decide +kernel
theorem dX8_goesOn_43 : decode cX8_goesOn 43 = .ok (.iconst 1, 1) := by decide +kernel
theorem dX8_goesOn_44 : decode cX8_goesOn 44 = .ok (.goto 4, 3) := by decide +kernel
theorem dX8_goesOn_47 : decode cX8_goesOn 47 = .ok (.iconst 0, 1) := by decide +kernel
theorem dX8_goesOn_48 : decode cX8_goesOn 48 = .ok (.ireturn, 1) := by decide +kernel
theorem dX8_needWord_0 : decode cX8_needWord 0 = .ok (.aload_n 0, 1) := by decide +kernel
theorem dX8_needWord_1 : decode cX8_needWord 1 = .ok (.getfield 46, 3) := by decide +kernel
theorem dX8_needWord_4 : decode cX8_needWord 4 = .ok (.ifCond .ne 49, 3) := by decide +kernel
theorem dX8_needWord_7 : decode cX8_needWord 7 = .ok (.aload_n 0, 1) := by decide +kernel
theorem dX8_needWord_8 : decode cX8_needWord 8 = .ok (.getfield 9, 3) := by decide +kernel
theorem dX8_needWord_11 : decode cX8_needWord 11 = .ok (.aload_n 0, 1) := by decide +kernel
theorem dX8_needWord_12 : decode cX8_needWord 12 = .ok (.getfield 43, 3) := by decide +kernel
theorem dX8_needWord_15 : decode cX8_needWord 15 = .ok (.iaload, 1) := by decide +kernel
theorem dX8_needWord_16 : decode cX8_needWord 16 = .ok (.iload_n 1, 1) := by decide +kernel
theorem dX8_needWord_17 : decode cX8_needWord 17 = .ok (.if_icmp .ne 36, 3) := by decide +kernel
theorem dX8_needWord_20 : decode cX8_needWord 20 = .ok (.aload_n 0, 1) := by decide +kernel
theorem dX8_needWord_21 : decode cX8_needWord 21 = .ok (.getfield 43, 3) := by decide +kernel
theorem dX8_needWord_24 : decode cX8_needWord 24 = .ok (.aload_n 0, 1) := by decide +kernel
theorem dX8_needWord_25 : decode cX8_needWord 25 = .ok (.getfield 37, 3) := by decide +kernel
theorem dX8_needWord_28 : decode cX8_needWord 28 = .ok (.if_icmp .ge 25, 3) := by decide +kernel
theorem dX8_needWord_31 : decode cX8_needWord 31 = .ok (.aload_n 0, 1) := by decide +kernel
theorem dX8_needWord_32 : decode cX8_needWord 32 = .ok (.dup, 1) := by decide +kernel
theorem dX8_needWord_33 : decode cX8_needWord 33 = .ok (.getfield 43, 3) := by decide +kernel
theorem dX8_needWord_36 : decode cX8_needWord 36 = .ok (.iconst 1, 1) := by decide +kernel
theorem dX8_needWord_37 : decode cX8_needWord 37 = .ok (.iadd, 1) := by decide +kernel
theorem dX8_needWord_38 : decode cX8_needWord 38 = .ok (.putfield 43, 3) := by decide +kernel
theorem dX8_needWord_41 : decode cX8_needWord 41 = .ok (.aload_n 0, 1) := by decide +kernel
theorem dX8_needWord_42 : decode cX8_needWord 42 = .ok (.getfield 18, 3) := by decide +kernel
theorem dX8_needWord_45 : decode cX8_needWord 45 = .ok (.aload_n 0, 1) := by decide +kernel
theorem dX8_needWord_46 : decode cX8_needWord 46 = .ok (.getfield 43, 3) := by decide +kernel
theorem dX8_needWord_49 : decode cX8_needWord 49 = .ok (.iconst 1, 1) := by decide +kernel
theorem dX8_needWord_50 : decode cX8_needWord 50 = .ok (.isub, 1) := by decide +kernel
theorem dX8_needWord_51 : decode cX8_needWord 51 = .ok (.laload, 1) := by decide +kernel
theorem dX8_needWord_52 : decode cX8_needWord 52 = .ok (.lreturn, 1) := by decide +kernel
theorem dX8_needWord_53 : decode cX8_needWord 53 = .ok (.aload_n 0, 1) := by decide +kernel
theorem dX8_needWord_54 : decode cX8_needWord 54 = .ok (.iconst 2, 1) := by decide +kernel
theorem dX8_needWord_55 : decode cX8_needWord 55 = .ok (.invokevirtual 81, 3) := by decide +kernel
theorem dX8_needWord_58 : decode cX8_needWord 58 = .ok (.lconst 0, 1) := by decide +kernel
theorem dX8_needWord_59 : decode cX8_needWord 59 = .ok (.lreturn, 1) := by decide +kernel
set_option maxHeartbeats 4000000 in
set_option maxRecDepth 100000 in
theorem g_needWord (l : Launch) (D : va_G) (cy : Nat → ClassId) (sz : Nat) (h0 : Nat) (a1 : Nat) (a2 : Nat) (a3 : Nat) (a4 : Nat) (kf : Nat → Int32) (pf : Nat → Int32) (wf : Nat → Int64) (cn : Nat) (ln : Int32) (at0 : Nat) (fa : Int32) (fp : Int32) (p0 : Int32) (hc : cn ≤ 1600) (ha : at0 ≤ cn) : Met l yX8_needWord (.code yX8_needWord cX8_needWord 2 (some .long) :: TB) ({ frames := 1, cells := 0, slots := 0, locals := 21 }) (va_Pc [.ref h0, .int p0] (fun U => U.heap.size = sz ∧ va_P D vwCl [(h0, .inr (8, [.ref a1, .ref a2, .ref a3, .ref a4, .int (nI cn), .int ln, .int (nI at0), .int fa, .int fp])), (a1, .inl (cy 1, 1601, .inl kf)), (a2, .inl (cy 1, 1601, .inl pf)), (a3, .inl (cy 2, 1601, .inr (.inl wf)))] U.heap ∧ va_K D vwCl (TY cy) U ∧ va_D (fun _ => True) [(h0, .inr (8, [.ref a1, .ref a2, .ref a3, .ref a4, .int (nI cn), .int ln, .int (nI at0), .int fa, .int fp])), (a1, .inl (cy 1, 1601, .inl kf)), (a2, .inl (cy 1, 1601, .inl pf)), (a3, .inl (cy 2, 1601, .inr (.inl wf)))])) (va_Ql (fun (r : Int64) (u : Nat × Int32 × Int32) => u.1 ≤ cn) (fun (u : Nat × Int32 × Int32) t => va_P D vwCl [(h0, .inr (8, [.ref a1, .ref a2, .ref a3, .ref a4, .int (nI cn), .int ln, .int (nI u.1), .int u.2.1, .int u.2.2])), (a1, .inl (cy 1, 1601, .inl kf)), (a2, .inl (cy 1, 1601, .inl pf)), (a3, .inl (cy 2, 1601, .inr (.inl wf)))] t.heap ∧ va_D (va_A [(h0, .inr (8, [.ref a1, .ref a2, .ref a3, .ref a4, .int (nI cn), .int ln, .int (nI at0), .int fa, .int fp])), (a1, .inl (cy 1, 1601, .inl kf)), (a2, .inl (cy 1, 1601, .inl pf)), (a3, .inl (cy 2, 1601, .inr (.inl wf)))] sz) [(h0, .inr (8, [.ref a1, .ref a2, .ref a3, .ref a4, .int (nI cn), .int ln, .int (nI u.1), .int u.2.1, .int u.2.2])), (a1, .inl (cy 1, 1601, .inl kf)), (a2, .inl (cy 1, 1601, .inl pf)), (a3, .inl (cy 2, 1601, .inr (.inl wf)))]) (va_A [(h0, .inr (8, [.ref a1, .ref a2, .ref a3, .ref a4, .int (nI cn), .int ln, .int (nI at0), .int fa, .int fp])), (a1, .inl (cy 1, 1601, .inl kf)), (a2, .inl (cy 1, 1601, .inl pf)), (a3, .inl (cy 2, 1601, .inr (.inl wf)))] sz)) 0 0 (va_A [(h0, .inr (8, [.ref a1, .ref a2, .ref a3, .ref a4, .int (nI cn), .int ln, .int (nI at0), .int fa, .int fp])), (a1, .inl (cy 1, 1601, .inl kf)), (a2, .inl (cy 1, 1601, .inl pf)), (a3, .inl (cy 2, 1601, .inr (.inl wf)))] sz) := by
  refine Met.ofW (cc := cX8_needWord) (maxL := 2) (ret := (some .long)) (by decide) rfl ?_
  intro p e s m args below meth c s₁ B hml hv
  obtain ⟨rfl, hsz, hP, hK, hD0⟩ := hv
  have hx := B.exec
  have hb := B.bytes
  have hr := B.returns
  have hts := atoms_spec (ws := .code yX8_needWord cX8_needWord 2 (some .long) :: TB) B.pre
  have hT : ∀ w ∈ TB, w.before _ s = true := fun w h => hts w (List.mem_cons_of_mem _ h)
  have hown : s.vm.findClass "MakerStarts$Tokens" = some m.cls := findClass_of_methodNamed B.named
  have hlocks := B.notSynchronized
  subst hsz
  have hD := hD0.self (sz := s.heap.size)
  generalize hAe : va_A [(h0, .inr (8, [.ref a1, .ref a2, .ref a3, .ref a4, .int (nI cn), .int ln, .int (nI at0), .int fa, .int fp])), (a1, .inl (cy 1, 1601, .inl kf)), (a2, .inl (cy 1, 1601, .inl pf)), (a3, .inl (cy 2, 1601, .inr (.inl wf)))] s.heap.size = A at hD  ⊢
  have hA : ∀ q : Nat, s.heap.size ≤ q → A q := fun q h => by rw [← hAe]; exact Or.inr h
  have hS : va_S A s.heap s.heap [] := va_S.rf
  have hP : va_P D vwCl [(h0, .inr (8, [.ref a1, .ref a2, .ref a3, .ref a4, .int (nI cn), .int ln, .int (nI at0), .int fa, .int fp])), (a1, .inl (cy 1, 1601, .inl kf)), (a2, .inl (cy 1, 1601, .inl pf)), (a3, .inl (cy 2, 1601, .inr (.inl wf)))] s.heap := hP
  have hl := lv_entry ([.ref h0, .int p0]) (n := 2) (Nat.le_of_ble_eq_true rfl)
  rw [lg_entry_eq]
  generalize (lg_sl ([.ref h0, .int p0]) ++ List.replicate (2 - (lg_sl ([.ref h0, .int p0])).length) Slot.unset).toArray = ls at hl ⊢
  have hl : lv_has ls 2 [(0, .ref h0), (1, .int p0)] := hl
  refine lv_aload_n hx hb dX8_needWord_0 rfl (lv_at hl 0 rfl) ?_
  refine va_get (D := D) (ci := 8) (v := .int fa) (C := RX8) (T := TX8) (N := 9) hx hb hT i_TX8 hown hK hP 0 rfl rfl 7 (by decide) (hT _ t_323) (fun _ h9 => h9) rfl dX8_needWord_1 ?_
  refine lv_if_ne (tgt := 53) hx hb dX8_needWord_4 (by decide) (fun c1 => ?_) (fun c1 => ?_)
  · refine lv_aload_n hx hb dX8_needWord_53 rfl (lv_at hl 0 rfl) ?_
    refine lv_iconst (v := 2) hx hb dX8_needWord_54 (by decide) ?_
    have hPc := hP.sub (ws' := [(h0, .inr (8, [.ref a1, .ref a2, .ref a3, .ref a4, .int (nI cn), .int ln, .int (nI at0), .int fa, .int fp])), (a1, .inl (cy 1, 1601, .inl kf)), (a2, .inl (cy 1, 1601, .inl pf)), (a3, .inl (cy 2, 1601, .inr (.inl wf)))]) [0, 1, 2, 3] rfl
    have hDc := hD.sub (ws' := [(h0, .inr (8, [.ref a1, .ref a2, .ref a3, .ref a4, .int (nI cn), .int ln, .int (nI at0), .int fa, .int fp])), (a1, .inl (cy 1, 1601, .inl kf)), (a2, .inl (cy 1, 1601, .inl pf)), (a3, .inl (cy 2, 1601, .inr (.inl wf)))]) [0, 1, 2, 3] (by decide) rfl
    have hFc := va_free (wc := [(h0, .inr (8, [.ref a1, .ref a2, .ref a3, .ref a4, .int (nI cn), .int ln, .int (nI at0), .int fa, .int fp])), (a1, .inl (cy 1, 1601, .inl kf)), (a2, .inl (cy 1, 1601, .inl pf)), (a3, .inl (cy 2, 1601, .inr (.inl wf)))]) hD hS hA [0, 1, 2, 3] rfl
    refine va_callv (va_runV (As := [.int 2]) (rest := []) ⟨hx, hb, hml, hown, hT⟩ (g_fail l D cy s.heap.size h0 a1 a2 a3 a4 kf pf wf cn ln at0 fa fp 2 hc ha) (cwV 1 hT (gTBV t_759 t_678 t_679 t_144 t_680) rfl rfl rfl (by decide +kernel) ⟨Nat.le_of_ble_eq_true rfl, Nat.le_of_ble_eq_true rfl⟩) ⟨fun a U g mk q => by obtain ⟨q0, q1, qP, qK, qD⟩ := q; exact ⟨q0, q1, qP, va_K.moved (u := U) (U := U.calling g mk a) (Vm.Alike.refl U.vm) qK, qD⟩, va_recv hK hPc (ci := 8) (q0 := 0) rfl rfl, fun U hU hW => ⟨rfl, by rw [hU], by rw [hU]; exact hPc, va_K.moved hW.alike hK, hDc.weaken (fun _ _ _ _ => trivial)⟩⟩ rfl rfl hl.1 rfl (lv_room (Nat.le_of_ble_eq_true rfl)) dX8_needWord_55 ⟨Nat.le_of_ble_eq_true rfl, Nat.le_of_ble_eq_true rfl⟩) hS (fun q _ h => hFc q h) hFc (fun  u t H1 locs ht hvm w2 hB hz1 hk1 hS => ?_)
    obtain ⟨k3, k4, k5⟩ := u
    obtain ⟨hP1, hD1⟩ := hB
    rw [ht] at hP1
    obtain ⟨hP, hD⟩ := va_join (wr := []) (w1 := [(h0, .inr (8, [.ref a1, .ref a2, .ref a3, .ref a4, .int (nI cn), .int ln, .int (nI k3), .int k4, .int k5])), (a1, .inl (cy 1, 1601, .inl kf)), (a2, .inl (cy 1, 1601, .inl pf)), (a3, .inl (cy 2, 1601, .inr (.inl wf)))]) hP hD [0, 1, 2, 3] [] rfl rfl (by decide) (by decide) hk1 hFc hP1 hD1
    generalize H1 = H at hP hS ⊢
    have hP : va_P D vwCl [(h0, .inr (8, [.ref a1, .ref a2, .ref a3, .ref a4, .int (nI cn), .int ln, .int (nI k3), .int k4, .int k5])), (a1, .inl (cy 1, 1601, .inl kf)), (a2, .inl (cy 1, 1601, .inl pf)), (a3, .inl (cy 2, 1601, .inr (.inl wf)))] H := hP
    have hD : va_D A [(h0, .inr (8, [.ref a1, .ref a2, .ref a3, .ref a4, .int (nI cn), .int ln, .int (nI k3), .int k4, .int k5])), (a1, .inl (cy 1, 1601, .inl kf)), (a2, .inl (cy 1, 1601, .inl pf)), (a3, .inl (cy 2, 1601, .inr (.inl wf)))] := hD
    refine lv_lconst (v := 0) hx hb dX8_needWord_58 (by decide) ?_
    have hP9 := hP.sub (ws' := [(h0, .inr (8, [.ref a1, .ref a2, .ref a3, .ref a4, .int (nI cn), .int ln, .int (nI k3), .int k4, .int k5])), (a1, .inl (cy 1, 1601, .inl kf)), (a2, .inl (cy 1, 1601, .inl pf)), (a3, .inl (cy 2, 1601, .inr (.inl wf)))]) [0, 1, 2, 3] rfl
    have hD9 := hD.sub (ws' := [(h0, .inr (8, [.ref a1, .ref a2, .ref a3, .ref a4, .int (nI cn), .int ln, .int (nI k3), .int k4, .int k5])), (a1, .inl (cy 1, 1601, .inl kf)), (a2, .inl (cy 1, 1601, .inl pf)), (a3, .inl (cy 2, 1601, .inr (.inl wf)))]) [0, 1, 2, 3] (by decide) rfl
    refine W.widen (k := 0) (n := 0) (Nat.le_of_ble_eq_true rfl) (Nat.le_of_ble_eq_true rfl) ?_
    exact W.lret (v := 0) hx hb hr (fun t ht hW => ⟨⟨0, (k3, k4, k5), rfl, w2, by rw [ht]; exact hP9, hD9⟩, hS.F ht⟩) hS.2.2 dX8_needWord_59
  · refine lv_aload_n hx hb dX8_needWord_7 rfl (lv_at hl 0 rfl) ?_
    refine va_get (D := D) (ci := 8) (v := .ref a1) (C := RX8) (T := TX8) (N := 9) hx hb hT i_TX8 hown hK hP 0 rfl rfl 0 (by decide) (hT _ t_316) (fun _ h9 => h9) rfl dX8_needWord_8 ?_
    refine lv_aload_n hx hb dX8_needWord_11 rfl (lv_at hl 0 rfl) ?_
    refine va_get (D := D) (ci := 8) (v := .int (nI at0)) (C := RX8) (T := TX8) (N := 9) hx hb hT i_TX8 hown hK hP 0 rfl rfl 6 (by decide) (hT _ t_322) (fun _ h9 => h9) rfl dX8_needWord_12 ?_
    refine va_iald hx hb hK hP 1 1 rfl rfl (vp_in_nI (by omega) (by decide)) dX8_needWord_15 ?_
    refine lv_topi (fun z6 e7 => ?_)
    refine lv_iload_n hx hb dX8_needWord_16 rfl (lv_at hl 1 rfl) ?_
    refine lv_icmp_ne (tgt := 53) hx hb dX8_needWord_17 (by decide) (fun c8 => ?_) (fun c8 => ?_)
    · refine lv_aload_n hx hb dX8_needWord_53 rfl (lv_at hl 0 rfl) ?_
      refine lv_iconst (v := 2) hx hb dX8_needWord_54 (by decide) ?_
      have hPc := hP.sub (ws' := [(h0, .inr (8, [.ref a1, .ref a2, .ref a3, .ref a4, .int (nI cn), .int ln, .int (nI at0), .int fa, .int fp])), (a1, .inl (cy 1, 1601, .inl kf)), (a2, .inl (cy 1, 1601, .inl pf)), (a3, .inl (cy 2, 1601, .inr (.inl wf)))]) [0, 1, 2, 3] rfl
      have hDc := hD.sub (ws' := [(h0, .inr (8, [.ref a1, .ref a2, .ref a3, .ref a4, .int (nI cn), .int ln, .int (nI at0), .int fa, .int fp])), (a1, .inl (cy 1, 1601, .inl kf)), (a2, .inl (cy 1, 1601, .inl pf)), (a3, .inl (cy 2, 1601, .inr (.inl wf)))]) [0, 1, 2, 3] (by decide) rfl
      have hFc := va_free (wc := [(h0, .inr (8, [.ref a1, .ref a2, .ref a3, .ref a4, .int (nI cn), .int ln, .int (nI at0), .int fa, .int fp])), (a1, .inl (cy 1, 1601, .inl kf)), (a2, .inl (cy 1, 1601, .inl pf)), (a3, .inl (cy 2, 1601, .inr (.inl wf)))]) hD hS hA [0, 1, 2, 3] rfl
      refine va_callv (va_runV (As := [.int 2]) (rest := []) ⟨hx, hb, hml, hown, hT⟩ (g_fail l D cy s.heap.size h0 a1 a2 a3 a4 kf pf wf cn ln at0 fa fp 2 hc ha) (cwV 1 hT (gTBV t_759 t_678 t_679 t_144 t_680) rfl rfl rfl (by decide +kernel) ⟨Nat.le_of_ble_eq_true rfl, Nat.le_of_ble_eq_true rfl⟩) ⟨fun a U g mk q => by obtain ⟨q0, q1, qP, qK, qD⟩ := q; exact ⟨q0, q1, qP, va_K.moved (u := U) (U := U.calling g mk a) (Vm.Alike.refl U.vm) qK, qD⟩, va_recv hK hPc (ci := 8) (q0 := 0) rfl rfl, fun U hU hW => ⟨rfl, by rw [hU], by rw [hU]; exact hPc, va_K.moved hW.alike hK, hDc.weaken (fun _ _ _ _ => trivial)⟩⟩ rfl rfl hl.1 rfl (lv_room (Nat.le_of_ble_eq_true rfl)) dX8_needWord_55 ⟨Nat.le_of_ble_eq_true rfl, Nat.le_of_ble_eq_true rfl⟩) hS (fun q _ h => hFc q h) hFc (fun  u t H1 locs ht hvm w9 hB hz1 hk1 hS => ?_)
      obtain ⟨k10, k11, k12⟩ := u
      obtain ⟨hP1, hD1⟩ := hB
      rw [ht] at hP1
      obtain ⟨hP, hD⟩ := va_join (wr := []) (w1 := [(h0, .inr (8, [.ref a1, .ref a2, .ref a3, .ref a4, .int (nI cn), .int ln, .int (nI k10), .int k11, .int k12])), (a1, .inl (cy 1, 1601, .inl kf)), (a2, .inl (cy 1, 1601, .inl pf)), (a3, .inl (cy 2, 1601, .inr (.inl wf)))]) hP hD [0, 1, 2, 3] [] rfl rfl (by decide) (by decide) hk1 hFc hP1 hD1
      generalize H1 = H at hP hS ⊢
      have hP : va_P D vwCl [(h0, .inr (8, [.ref a1, .ref a2, .ref a3, .ref a4, .int (nI cn), .int ln, .int (nI k10), .int k11, .int k12])), (a1, .inl (cy 1, 1601, .inl kf)), (a2, .inl (cy 1, 1601, .inl pf)), (a3, .inl (cy 2, 1601, .inr (.inl wf)))] H := hP
      have hD : va_D A [(h0, .inr (8, [.ref a1, .ref a2, .ref a3, .ref a4, .int (nI cn), .int ln, .int (nI k10), .int k11, .int k12])), (a1, .inl (cy 1, 1601, .inl kf)), (a2, .inl (cy 1, 1601, .inl pf)), (a3, .inl (cy 2, 1601, .inr (.inl wf)))] := hD
      refine lv_lconst (v := 0) hx hb dX8_needWord_58 (by decide) ?_
      have hP9 := hP.sub (ws' := [(h0, .inr (8, [.ref a1, .ref a2, .ref a3, .ref a4, .int (nI cn), .int ln, .int (nI k10), .int k11, .int k12])), (a1, .inl (cy 1, 1601, .inl kf)), (a2, .inl (cy 1, 1601, .inl pf)), (a3, .inl (cy 2, 1601, .inr (.inl wf)))]) [0, 1, 2, 3] rfl
      have hD9 := hD.sub (ws' := [(h0, .inr (8, [.ref a1, .ref a2, .ref a3, .ref a4, .int (nI cn), .int ln, .int (nI k10), .int k11, .int k12])), (a1, .inl (cy 1, 1601, .inl kf)), (a2, .inl (cy 1, 1601, .inl pf)), (a3, .inl (cy 2, 1601, .inr (.inl wf)))]) [0, 1, 2, 3] (by decide) rfl
      refine W.widen (k := 0) (n := 0) (Nat.le_of_ble_eq_true rfl) (Nat.le_of_ble_eq_true rfl) ?_
      exact W.lret (v := 0) hx hb hr (fun t ht hW => ⟨⟨0, (k10, k11, k12), rfl, w9, by rw [ht]; exact hP9, hD9⟩, hS.F ht⟩) hS.2.2 dX8_needWord_59
    · refine lv_aload_n hx hb dX8_needWord_20 rfl (lv_at hl 0 rfl) ?_
      refine va_get (D := D) (ci := 8) (v := .int (nI at0)) (C := RX8) (T := TX8) (N := 9) hx hb hT i_TX8 hown hK hP 0 rfl rfl 6 (by decide) (hT _ t_322) (fun _ h9 => h9) rfl dX8_needWord_21 ?_
      refine lv_aload_n hx hb dX8_needWord_24 rfl (lv_at hl 0 rfl) ?_
      refine va_get (D := D) (ci := 8) (v := .int (nI cn)) (C := RX8) (T := TX8) (N := 9) hx hb hT i_TX8 hown hK hP 0 rfl rfl 4 (by decide) (hT _ t_320) (fun _ h9 => h9) rfl dX8_needWord_25 ?_
      refine lv_icmp_ge (tgt := 53) hx hb dX8_needWord_28 (by decide) (fun c13 => ?_) (fun c13 => ?_)
      · refine lv_aload_n hx hb dX8_needWord_53 rfl (lv_at hl 0 rfl) ?_
        refine lv_iconst (v := 2) hx hb dX8_needWord_54 (by decide) ?_
        have hPc := hP.sub (ws' := [(h0, .inr (8, [.ref a1, .ref a2, .ref a3, .ref a4, .int (nI cn), .int ln, .int (nI at0), .int fa, .int fp])), (a1, .inl (cy 1, 1601, .inl kf)), (a2, .inl (cy 1, 1601, .inl pf)), (a3, .inl (cy 2, 1601, .inr (.inl wf)))]) [0, 1, 2, 3] rfl
        have hDc := hD.sub (ws' := [(h0, .inr (8, [.ref a1, .ref a2, .ref a3, .ref a4, .int (nI cn), .int ln, .int (nI at0), .int fa, .int fp])), (a1, .inl (cy 1, 1601, .inl kf)), (a2, .inl (cy 1, 1601, .inl pf)), (a3, .inl (cy 2, 1601, .inr (.inl wf)))]) [0, 1, 2, 3] (by decide) rfl
        have hFc := va_free (wc := [(h0, .inr (8, [.ref a1, .ref a2, .ref a3, .ref a4, .int (nI cn), .int ln, .int (nI at0), .int fa, .int fp])), (a1, .inl (cy 1, 1601, .inl kf)), (a2, .inl (cy 1, 1601, .inl pf)), (a3, .inl (cy 2, 1601, .inr (.inl wf)))]) hD hS hA [0, 1, 2, 3] rfl
        refine va_callv (va_runV (As := [.int 2]) (rest := []) ⟨hx, hb, hml, hown, hT⟩ (g_fail l D cy s.heap.size h0 a1 a2 a3 a4 kf pf wf cn ln at0 fa fp 2 hc ha) (cwV 1 hT (gTBV t_759 t_678 t_679 t_144 t_680) rfl rfl rfl (by decide +kernel) ⟨Nat.le_of_ble_eq_true rfl, Nat.le_of_ble_eq_true rfl⟩) ⟨fun a U g mk q => by obtain ⟨q0, q1, qP, qK, qD⟩ := q; exact ⟨q0, q1, qP, va_K.moved (u := U) (U := U.calling g mk a) (Vm.Alike.refl U.vm) qK, qD⟩, va_recv hK hPc (ci := 8) (q0 := 0) rfl rfl, fun U hU hW => ⟨rfl, by rw [hU], by rw [hU]; exact hPc, va_K.moved hW.alike hK, hDc.weaken (fun _ _ _ _ => trivial)⟩⟩ rfl rfl hl.1 rfl (lv_room (Nat.le_of_ble_eq_true rfl)) dX8_needWord_55 ⟨Nat.le_of_ble_eq_true rfl, Nat.le_of_ble_eq_true rfl⟩) hS (fun q _ h => hFc q h) hFc (fun  u t H1 locs ht hvm w14 hB hz1 hk1 hS => ?_)
        obtain ⟨k15, k16, k17⟩ := u
        obtain ⟨hP1, hD1⟩ := hB
        rw [ht] at hP1
        obtain ⟨hP, hD⟩ := va_join (wr := []) (w1 := [(h0, .inr (8, [.ref a1, .ref a2, .ref a3, .ref a4, .int (nI cn), .int ln, .int (nI k15), .int k16, .int k17])), (a1, .inl (cy 1, 1601, .inl kf)), (a2, .inl (cy 1, 1601, .inl pf)), (a3, .inl (cy 2, 1601, .inr (.inl wf)))]) hP hD [0, 1, 2, 3] [] rfl rfl (by decide) (by decide) hk1 hFc hP1 hD1
        generalize H1 = H at hP hS ⊢
        have hP : va_P D vwCl [(h0, .inr (8, [.ref a1, .ref a2, .ref a3, .ref a4, .int (nI cn), .int ln, .int (nI k15), .int k16, .int k17])), (a1, .inl (cy 1, 1601, .inl kf)), (a2, .inl (cy 1, 1601, .inl pf)), (a3, .inl (cy 2, 1601, .inr (.inl wf)))] H := hP
        have hD : va_D A [(h0, .inr (8, [.ref a1, .ref a2, .ref a3, .ref a4, .int (nI cn), .int ln, .int (nI k15), .int k16, .int k17])), (a1, .inl (cy 1, 1601, .inl kf)), (a2, .inl (cy 1, 1601, .inl pf)), (a3, .inl (cy 2, 1601, .inr (.inl wf)))] := hD
        refine lv_lconst (v := 0) hx hb dX8_needWord_58 (by decide) ?_
        have hP9 := hP.sub (ws' := [(h0, .inr (8, [.ref a1, .ref a2, .ref a3, .ref a4, .int (nI cn), .int ln, .int (nI k15), .int k16, .int k17])), (a1, .inl (cy 1, 1601, .inl kf)), (a2, .inl (cy 1, 1601, .inl pf)), (a3, .inl (cy 2, 1601, .inr (.inl wf)))]) [0, 1, 2, 3] rfl
        have hD9 := hD.sub (ws' := [(h0, .inr (8, [.ref a1, .ref a2, .ref a3, .ref a4, .int (nI cn), .int ln, .int (nI k15), .int k16, .int k17])), (a1, .inl (cy 1, 1601, .inl kf)), (a2, .inl (cy 1, 1601, .inl pf)), (a3, .inl (cy 2, 1601, .inr (.inl wf)))]) [0, 1, 2, 3] (by decide) rfl
        refine W.widen (k := 0) (n := 0) (Nat.le_of_ble_eq_true rfl) (Nat.le_of_ble_eq_true rfl) ?_
        exact W.lret (v := 0) hx hb hr (fun t ht hW => ⟨⟨0, (k15, k16, k17), rfl, w14, by rw [ht]; exact hP9, hD9⟩, hS.F ht⟩) hS.2.2 dX8_needWord_59
      · have hlt : at0 < cn := by
          rcases Nat.lt_or_ge at0 cn with q | q
          · exact q
          · exact absurd (nI_le q (by omega)) c13
        refine lv_aload_n hx hb dX8_needWord_31 rfl (lv_at hl 0 rfl) ?_
        refine lv_dup hx hb dX8_needWord_32 rfl ?_
        refine va_get (D := D) (ci := 8) (v := .int (nI at0)) (C := RX8) (T := TX8) (N := 9) hx hb hT i_TX8 hown hK hP 0 rfl rfl 6 (by decide) (hT _ t_322) (fun _ h9 => h9) rfl dX8_needWord_33 ?_
        refine lv_iconst (v := 1) hx hb dX8_needWord_36 (by decide) ?_
        refine lv_iadd hx hb dX8_needWord_37 ?_
        refine lv_topi (fun z18 e19 => ?_)
        obtain rfl : z18 = nI (at0 + 1) := e19.trans (nI_1 at0)
        refine va_put (D := D) (ci := 8) (v := .int (nI (at0 + 1))) (ty := .int) (C := RX8) (T := TX8) (N := 9) hx hb hT i_TX8 tyX8 tyX8_ok nmX8 hown hK hP hD hS 0 rfl rfl 6 (by decide) (hT _ t_322) (fun _ h9 => h9) rfl (by decide +kernel) rfl rfl (Nat.le_of_ble_eq_true rfl) dX8_needWord_38 (fun H locs hP hD hS => ?_)
        have hP : va_P D vwCl [(h0, .inr (8, [.ref a1, .ref a2, .ref a3, .ref a4, .int (nI cn), .int ln, .int (nI (at0 + 1)), .int fa, .int fp])), (a1, .inl (cy 1, 1601, .inl kf)), (a2, .inl (cy 1, 1601, .inl pf)), (a3, .inl (cy 2, 1601, .inr (.inl wf)))] H := hP
        have hD : va_D A [(h0, .inr (8, [.ref a1, .ref a2, .ref a3, .ref a4, .int (nI cn), .int ln, .int (nI (at0 + 1)), .int fa, .int fp])), (a1, .inl (cy 1, 1601, .inl kf)), (a2, .inl (cy 1, 1601, .inl pf)), (a3, .inl (cy 2, 1601, .inr (.inl wf)))] := hD
        refine lv_aload_n hx hb dX8_needWord_41 rfl (lv_at hl 0 rfl) ?_
        refine va_get (D := D) (ci := 8) (v := .ref a3) (C := RX8) (T := TX8) (N := 9) hx hb hT i_TX8 hown hK hP 0 rfl rfl 2 (by decide) (hT _ t_318) (fun _ h9 => h9) rfl dX8_needWord_42 ?_
        refine lv_aload_n hx hb dX8_needWord_45 rfl (lv_at hl 0 rfl) ?_
        refine va_get (D := D) (ci := 8) (v := .int (nI (at0 + 1))) (C := RX8) (T := TX8) (N := 9) hx hb hT i_TX8 hown hK hP 0 rfl rfl 6 (by decide) (hT _ t_322) (fun _ h9 => h9) rfl dX8_needWord_46 ?_
        refine lv_iconst (v := 1) hx hb dX8_needWord_49 (by decide) ?_
        refine lv_isub hx hb dX8_needWord_50 ?_
        refine lv_topi (fun z20 e21 => ?_)
        obtain rfl : z20 = nI at0 := e21.trans (nI_pred at0)
        refine va_lald hx hb hK hP 3 2 rfl rfl (vp_in_nI (by omega) (by decide)) dX8_needWord_51 ?_
        refine lv_topl (fun z22 e23 => ?_)
        have hP9 := hP.sub (ws' := [(h0, .inr (8, [.ref a1, .ref a2, .ref a3, .ref a4, .int (nI cn), .int ln, .int (nI (at0 + 1)), .int fa, .int fp])), (a1, .inl (cy 1, 1601, .inl kf)), (a2, .inl (cy 1, 1601, .inl pf)), (a3, .inl (cy 2, 1601, .inr (.inl wf)))]) [0, 1, 2, 3] rfl
        have hD9 := hD.sub (ws' := [(h0, .inr (8, [.ref a1, .ref a2, .ref a3, .ref a4, .int (nI cn), .int ln, .int (nI (at0 + 1)), .int fa, .int fp])), (a1, .inl (cy 1, 1601, .inl kf)), (a2, .inl (cy 1, 1601, .inl pf)), (a3, .inl (cy 2, 1601, .inr (.inl wf)))]) [0, 1, 2, 3] (by decide) rfl
        refine W.widen (k := 0) (n := 0) (Nat.le_of_ble_eq_true rfl) (Nat.le_of_ble_eq_true rfl) ?_
        exact W.lret (v := z22) hx hb hr (fun t ht hW => ⟨⟨z22, ((at0 + 1), fa, fp), rfl, (show at0 + 1 ≤ cn from hlt), by rw [ht]; exact hP9, hD9⟩, hS.F ht⟩) hS.2.2 dX8_needWord_52

set_option maxHeartbeats 4000000 in
set_option maxRecDepth 100000 in
theorem g_goesOn (l : Launch) (D : va_G) (cy : Nat → ClassId) (sz : Nat) (h0 : Nat) (a1 : Nat) (a2 : Nat) (a3 : Nat) (a4 : Nat) (kf : Nat → Int32) (pf : Nat → Int32) (wf : Nat → Int64) (cn : Nat) (ln : Int32) (at0 : Nat) (fa : Int32) (fp : Int32) (p0 : Int32) (hc : cn ≤ 1600) (ha : at0 ≤ cn) : Met l yX8_goesOn (.code yX8_goesOn cX8_goesOn 2 (some .boolean) :: TB) ({ frames := 1, cells := 0, slots := 0, locals := 20 }) (va_Pc [.ref h0, .int p0] (fun U => U.heap.size = sz ∧ va_P D vwCl [(h0, .inr (8, [.ref a1, .ref a2, .ref a3, .ref a4, .int (nI cn), .int ln, .int (nI at0), .int fa, .int fp])), (a1, .inl (cy 1, 1601, .inl kf)), (a2, .inl (cy 1, 1601, .inl pf)), (a3, .inl (cy 2, 1601, .inr (.inl wf)))] U.heap ∧ va_K D vwCl (TY cy) U ∧ va_D (fun _ => True) [(h0, .inr (8, [.ref a1, .ref a2, .ref a3, .ref a4, .int (nI cn), .int ln, .int (nI at0), .int fa, .int fp])), (a1, .inl (cy 1, 1601, .inl kf)), (a2, .inl (cy 1, 1601, .inl pf)), (a3, .inl (cy 2, 1601, .inr (.inl wf)))])) (va_Qi (fun (r : Int32) (u : Unit) => True) (fun (u : Unit) t => va_P D vwCl [(h0, .inr (8, [.ref a1, .ref a2, .ref a3, .ref a4, .int (nI cn), .int ln, .int (nI at0), .int fa, .int fp])), (a1, .inl (cy 1, 1601, .inl kf)), (a2, .inl (cy 1, 1601, .inl pf)), (a3, .inl (cy 2, 1601, .inr (.inl wf)))] t.heap ∧ va_D (va_A [(h0, .inr (8, [.ref a1, .ref a2, .ref a3, .ref a4, .int (nI cn), .int ln, .int (nI at0), .int fa, .int fp])), (a1, .inl (cy 1, 1601, .inl kf)), (a2, .inl (cy 1, 1601, .inl pf)), (a3, .inl (cy 2, 1601, .inr (.inl wf)))] sz) [(h0, .inr (8, [.ref a1, .ref a2, .ref a3, .ref a4, .int (nI cn), .int ln, .int (nI at0), .int fa, .int fp])), (a1, .inl (cy 1, 1601, .inl kf)), (a2, .inl (cy 1, 1601, .inl pf)), (a3, .inl (cy 2, 1601, .inr (.inl wf)))]) (va_A [(h0, .inr (8, [.ref a1, .ref a2, .ref a3, .ref a4, .int (nI cn), .int ln, .int (nI at0), .int fa, .int fp])), (a1, .inl (cy 1, 1601, .inl kf)), (a2, .inl (cy 1, 1601, .inl pf)), (a3, .inl (cy 2, 1601, .inr (.inl wf)))] sz)) 0 0 (va_A [(h0, .inr (8, [.ref a1, .ref a2, .ref a3, .ref a4, .int (nI cn), .int ln, .int (nI at0), .int fa, .int fp])), (a1, .inl (cy 1, 1601, .inl kf)), (a2, .inl (cy 1, 1601, .inl pf)), (a3, .inl (cy 2, 1601, .inr (.inl wf)))] sz) := by
  refine Met.ofW (cc := cX8_goesOn) (maxL := 2) (ret := (some .boolean)) (by decide) rfl ?_
  intro p e s m args below meth c s₁ B hml hv
  obtain ⟨rfl, hsz, hP, hK, hD0⟩ := hv
  have hx := B.exec
  have hb := B.bytes
  have hr := B.returns
  have hts := atoms_spec (ws := .code yX8_goesOn cX8_goesOn 2 (some .boolean) :: TB) B.pre
  have hT : ∀ w ∈ TB, w.before _ s = true := fun w h => hts w (List.mem_cons_of_mem _ h)
  have hown : s.vm.findClass "MakerStarts$Tokens" = some m.cls := findClass_of_methodNamed B.named
  have hlocks := B.notSynchronized
  subst hsz
  have hD := hD0.self (sz := s.heap.size)
  generalize hAe : va_A [(h0, .inr (8, [.ref a1, .ref a2, .ref a3, .ref a4, .int (nI cn), .int ln, .int (nI at0), .int fa, .int fp])), (a1, .inl (cy 1, 1601, .inl kf)), (a2, .inl (cy 1, 1601, .inl pf)), (a3, .inl (cy 2, 1601, .inr (.inl wf)))] s.heap.size = A at hD  ⊢
  have hA : ∀ q : Nat, s.heap.size ≤ q → A q := fun q h => by rw [← hAe]; exact Or.inr h
  have hS : va_S A s.heap s.heap [] := va_S.rf
  have hP : va_P D vwCl [(h0, .inr (8, [.ref a1, .ref a2, .ref a3, .ref a4, .int (nI cn), .int ln, .int (nI at0), .int fa, .int fp])), (a1, .inl (cy 1, 1601, .inl kf)), (a2, .inl (cy 1, 1601, .inl pf)), (a3, .inl (cy 2, 1601, .inr (.inl wf)))] s.heap := hP
  have hl := lv_entry ([.ref h0, .int p0]) (n := 2) (Nat.le_of_ble_eq_true rfl)
  rw [lg_entry_eq]
  generalize (lg_sl ([.ref h0, .int p0]) ++ List.replicate (2 - (lg_sl ([.ref h0, .int p0])).length) Slot.unset).toArray = ls at hl ⊢
  have hl : lv_has ls 2 [(0, .ref h0), (1, .int p0)] := hl
  refine lv_aload_n hx hb dX8_goesOn_0 rfl (lv_at hl 0 rfl) ?_
  refine va_get (D := D) (ci := 8) (v := .int ln) (C := RX8) (T := TX8) (N := 9) hx hb hT i_TX8 hown hK hP 0 rfl rfl 5 (by decide) (hT _ t_321) (fun _ h9 => h9) rfl dX8_goesOn_1 ?_
  refine lv_if_le (tgt := 47) hx hb dX8_goesOn_4 (by decide) (fun c1 => ?_) (fun c1 => ?_)
  · refine lv_iconst (v := 0) hx hb dX8_goesOn_47 (by decide) ?_
    have hP9 := hP.sub (ws' := [(h0, .inr (8, [.ref a1, .ref a2, .ref a3, .ref a4, .int (nI cn), .int ln, .int (nI at0), .int fa, .int fp])), (a1, .inl (cy 1, 1601, .inl kf)), (a2, .inl (cy 1, 1601, .inl pf)), (a3, .inl (cy 2, 1601, .inr (.inl wf)))]) [0, 1, 2, 3] rfl
    have hD9 := hD.sub (ws' := [(h0, .inr (8, [.ref a1, .ref a2, .ref a3, .ref a4, .int (nI cn), .int ln, .int (nI at0), .int fa, .int fp])), (a1, .inl (cy 1, 1601, .inl kf)), (a2, .inl (cy 1, 1601, .inl pf)), (a3, .inl (cy 2, 1601, .inr (.inl wf)))]) [0, 1, 2, 3] (by decide) rfl
    refine W.widen (k := 0) (n := 0) (Nat.le_of_ble_eq_true rfl) (Nat.le_of_ble_eq_true rfl) ?_
    exact W.zret (v := 0) hx hb hr rfl (fun t ht hW => ⟨⟨0, (), rfl, trivial, by rw [ht]; exact hP9, hD9⟩, hS.F ht⟩) hS.2.2 dX8_goesOn_48
  · refine lv_aload_n hx hb dX8_goesOn_7 rfl (lv_at hl 0 rfl) ?_
    refine va_get (D := D) (ci := 8) (v := .int (nI cn)) (C := RX8) (T := TX8) (N := 9) hx hb hT i_TX8 hown hK hP 0 rfl rfl 4 (by decide) (hT _ t_320) (fun _ h9 => h9) rfl dX8_goesOn_8 ?_
    refine lv_if_le (tgt := 47) hx hb dX8_goesOn_11 (by decide) (fun c2 => ?_) (fun c2 => ?_)
    · refine lv_iconst (v := 0) hx hb dX8_goesOn_47 (by decide) ?_
      have hP9 := hP.sub (ws' := [(h0, .inr (8, [.ref a1, .ref a2, .ref a3, .ref a4, .int (nI cn), .int ln, .int (nI at0), .int fa, .int fp])), (a1, .inl (cy 1, 1601, .inl kf)), (a2, .inl (cy 1, 1601, .inl pf)), (a3, .inl (cy 2, 1601, .inr (.inl wf)))]) [0, 1, 2, 3] rfl
      have hD9 := hD.sub (ws' := [(h0, .inr (8, [.ref a1, .ref a2, .ref a3, .ref a4, .int (nI cn), .int ln, .int (nI at0), .int fa, .int fp])), (a1, .inl (cy 1, 1601, .inl kf)), (a2, .inl (cy 1, 1601, .inl pf)), (a3, .inl (cy 2, 1601, .inr (.inl wf)))]) [0, 1, 2, 3] (by decide) rfl
      refine W.widen (k := 0) (n := 0) (Nat.le_of_ble_eq_true rfl) (Nat.le_of_ble_eq_true rfl) ?_
      exact W.zret (v := 0) hx hb hr rfl (fun t ht hW => ⟨⟨0, (), rfl, trivial, by rw [ht]; exact hP9, hD9⟩, hS.F ht⟩) hS.2.2 dX8_goesOn_48
    · refine lv_iload_n hx hb dX8_goesOn_14 rfl (lv_at hl 1 rfl) ?_
      have hPc := hP.sub (ws' := []) [] rfl
      have hDc := hD.sub (ws' := []) [] (by decide) rfl
      have hFc := va_free (wc := []) hD hS hA [] rfl
      refine va_calli (va_runS (As := [.int p0]) (rest := []) ⟨hx, hb, hml, hown, hT⟩ (g_isDigit l D cy s.heap.size p0) (va_cwS 1 hT (gTBS t_586 t_587 t_144 t_588) rfl rfl rfl (by decide +kernel) ⟨Nat.le_of_ble_eq_true rfl, Nat.le_of_ble_eq_true rfl⟩) ⟨fun a U g mk q => by obtain ⟨q0, q1, qP, qK, qD⟩ := q; exact ⟨q0, q1, qP, va_K.moved (u := U) (U := U.calling g mk a) (Vm.Alike.refl U.vm) qK, qD⟩, fun U hU hW => ⟨rfl, by rw [hU], by rw [hU]; exact hPc, va_K.moved hW.alike hK, hDc.weaken (fun _ _ _ _ => trivial)⟩⟩ rfl rfl hl.1 rfl (lv_room (Nat.le_of_ble_eq_true rfl)) dX8_goesOn_15 ⟨Nat.le_of_ble_eq_true rfl, Nat.le_of_ble_eq_true rfl⟩) hS (fun q _ h => hFc q h) hFc (fun r3 u t H1 locs ht hvm w4 hB hz1 hk1 hS => ?_)
      obtain ⟨hP1, hD1⟩ := hB
      rw [ht] at hP1
      obtain ⟨hP, hD⟩ := va_join (wr := [(h0, .inr (8, [.ref a1, .ref a2, .ref a3, .ref a4, .int (nI cn), .int ln, .int (nI at0), .int fa, .int fp])), (a1, .inl (cy 1, 1601, .inl kf)), (a2, .inl (cy 1, 1601, .inl pf)), (a3, .inl (cy 2, 1601, .inr (.inl wf)))]) (w1 := []) hP hD [] [0, 1, 2, 3] rfl rfl (by decide) (by decide) hk1 hFc hP1 hD1
      generalize H1 = H at hP hS ⊢
      have hP : va_P D vwCl [(h0, .inr (8, [.ref a1, .ref a2, .ref a3, .ref a4, .int (nI cn), .int ln, .int (nI at0), .int fa, .int fp])), (a1, .inl (cy 1, 1601, .inl kf)), (a2, .inl (cy 1, 1601, .inl pf)), (a3, .inl (cy 2, 1601, .inr (.inl wf)))] H := hP
      have hD : va_D A [(h0, .inr (8, [.ref a1, .ref a2, .ref a3, .ref a4, .int (nI cn), .int ln, .int (nI at0), .int fa, .int fp])), (a1, .inl (cy 1, 1601, .inl kf)), (a2, .inl (cy 1, 1601, .inl pf)), (a3, .inl (cy 2, 1601, .inr (.inl wf)))] := hD
      refine lv_if_ne (tgt := 43) hx hb dX8_goesOn_18 (by decide) (fun c5 => ?_) (fun c5 => ?_)
      · refine lv_iconst (v := 1) hx hb dX8_goesOn_43 (by decide) ?_
        refine lv_goto (tgt := 48) hx hb dX8_goesOn_44 (by decide) ?_
        have hP9 := hP.sub (ws' := [(h0, .inr (8, [.ref a1, .ref a2, .ref a3, .ref a4, .int (nI cn), .int ln, .int (nI at0), .int fa, .int fp])), (a1, .inl (cy 1, 1601, .inl kf)), (a2, .inl (cy 1, 1601, .inl pf)), (a3, .inl (cy 2, 1601, .inr (.inl wf)))]) [0, 1, 2, 3] rfl
        have hD9 := hD.sub (ws' := [(h0, .inr (8, [.ref a1, .ref a2, .ref a3, .ref a4, .int (nI cn), .int ln, .int (nI at0), .int fa, .int fp])), (a1, .inl (cy 1, 1601, .inl kf)), (a2, .inl (cy 1, 1601, .inl pf)), (a3, .inl (cy 2, 1601, .inr (.inl wf)))]) [0, 1, 2, 3] (by decide) rfl
        refine W.widen (k := 0) (n := 0) (Nat.le_of_ble_eq_true rfl) (Nat.le_of_ble_eq_true rfl) ?_
        exact W.zret (v := 1) hx hb hr rfl (fun t ht hW => ⟨⟨1, (), rfl, trivial, by rw [ht]; exact hP9, hD9⟩, hS.F ht⟩) hS.2.2 dX8_goesOn_48
      · refine lv_aload_n hx hb dX8_goesOn_21 rfl (lv_at hl 0 rfl) ?_
        refine va_get (D := D) (ci := 8) (v := .ref a1) (C := RX8) (T := TX8) (N := 9) hx hb hT i_TX8 hown hK hP 0 rfl rfl 0 (by decide) (hT _ t_316) (fun _ h9 => h9) rfl dX8_goesOn_22 ?_
        refine lv_aload_n hx hb dX8_goesOn_25 rfl (lv_at hl 0 rfl) ?_
        obtain ⟨k9, rfl⟩ : ∃ k, cn = k + 1 := by
          cases cn with
          | zero => exact absurd (show nI 0 ≤ 0 by decide) c2
          | succ k => exact ⟨k, rfl⟩
        refine va_get (D := D) (ci := 8) (v := .int (nI (k9 + 1))) (C := RX8) (T := TX8) (N := 9) hx hb hT i_TX8 hown hK hP 0 rfl rfl 4 (by decide) (hT _ t_320) (fun _ h9 => h9) rfl dX8_goesOn_26 ?_
        refine lv_iconst (v := 1) hx hb dX8_goesOn_29 (by decide) ?_
        refine lv_isub hx hb dX8_goesOn_30 ?_
        refine lv_topi (fun z6 e7 => ?_)
        obtain rfl : z6 = nI k9 := e7.trans (nI_pred k9)
        refine va_iald hx hb hK hP 1 1 rfl rfl (vp_in_nI (by omega) (by decide)) dX8_goesOn_31 ?_
        refine lv_topi (fun z8 e9 => ?_)
        refine lv_iconst (v := 2) hx hb dX8_goesOn_32 (by decide) ?_
        refine lv_icmp_ne (tgt := 47) hx hb dX8_goesOn_33 (by decide) (fun c10 => ?_) (fun c10 => ?_)
        · refine lv_iconst (v := 0) hx hb dX8_goesOn_47 (by decide) ?_
          have hP9 := hP.sub (ws' := [(h0, .inr (8, [.ref a1, .ref a2, .ref a3, .ref a4, .int (nI (k9 + 1)), .int ln, .int (nI at0), .int fa, .int fp])), (a1, .inl (cy 1, 1601, .inl kf)), (a2, .inl (cy 1, 1601, .inl pf)), (a3, .inl (cy 2, 1601, .inr (.inl wf)))]) [0, 1, 2, 3] rfl
          have hD9 := hD.sub (ws' := [(h0, .inr (8, [.ref a1, .ref a2, .ref a3, .ref a4, .int (nI (k9 + 1)), .int ln, .int (nI at0), .int fa, .int fp])), (a1, .inl (cy 1, 1601, .inl kf)), (a2, .inl (cy 1, 1601, .inl pf)), (a3, .inl (cy 2, 1601, .inr (.inl wf)))]) [0, 1, 2, 3] (by decide) rfl
          refine W.widen (k := 0) (n := 0) (Nat.le_of_ble_eq_true rfl) (Nat.le_of_ble_eq_true rfl) ?_
          exact W.zret (v := 0) hx hb hr rfl (fun t ht hW => ⟨⟨0, (), rfl, trivial, by rw [ht]; exact hP9, hD9⟩, hS.F ht⟩) hS.2.2 dX8_goesOn_48
        · refine lv_iload_n hx hb dX8_goesOn_36 rfl (lv_at hl 1 rfl) ?_
          have hPc := hP.sub (ws' := []) [] rfl
          have hDc := hD.sub (ws' := []) [] (by decide) rfl
          have hFc := va_free (wc := []) hD hS hA [] rfl
          refine va_calli (va_runS (As := [.int p0]) (rest := []) ⟨hx, hb, hml, hown, hT⟩ (g_isLetter l D cy H.size p0) (va_cwS 1 hT (gTBS t_589 t_590 t_144 t_591) rfl rfl rfl (by decide +kernel) ⟨Nat.le_of_ble_eq_true rfl, Nat.le_of_ble_eq_true rfl⟩) ⟨fun a U g mk q => by obtain ⟨q0, q1, qP, qK, qD⟩ := q; exact ⟨q0, q1, qP, va_K.moved (u := U) (U := U.calling g mk a) (Vm.Alike.refl U.vm) qK, qD⟩, fun U hU hW => ⟨rfl, by rw [hU], by rw [hU]; exact hPc, va_K.moved hW.alike hK, hDc.weaken (fun _ _ _ _ => trivial)⟩⟩ rfl rfl hl.1 rfl (lv_room (Nat.le_of_ble_eq_true rfl)) dX8_goesOn_37 ⟨Nat.le_of_ble_eq_true rfl, Nat.le_of_ble_eq_true rfl⟩) hS (fun q _ h => hFc q h) hFc (fun r11 u t H1 locs ht hvm w12 hB hz1 hk1 hS => ?_)
          obtain ⟨hP1, hD1⟩ := hB
          rw [ht] at hP1
          obtain ⟨hP, hD⟩ := va_join (wr := [(h0, .inr (8, [.ref a1, .ref a2, .ref a3, .ref a4, .int (nI (k9 + 1)), .int ln, .int (nI at0), .int fa, .int fp])), (a1, .inl (cy 1, 1601, .inl kf)), (a2, .inl (cy 1, 1601, .inl pf)), (a3, .inl (cy 2, 1601, .inr (.inl wf)))]) (w1 := []) hP hD [] [0, 1, 2, 3] rfl rfl (by decide) (by decide) hk1 hFc hP1 hD1
          generalize H1 = H at hP hS ⊢
          have hP : va_P D vwCl [(h0, .inr (8, [.ref a1, .ref a2, .ref a3, .ref a4, .int (nI (k9 + 1)), .int ln, .int (nI at0), .int fa, .int fp])), (a1, .inl (cy 1, 1601, .inl kf)), (a2, .inl (cy 1, 1601, .inl pf)), (a3, .inl (cy 2, 1601, .inr (.inl wf)))] H := hP
          have hD : va_D A [(h0, .inr (8, [.ref a1, .ref a2, .ref a3, .ref a4, .int (nI (k9 + 1)), .int ln, .int (nI at0), .int fa, .int fp])), (a1, .inl (cy 1, 1601, .inl kf)), (a2, .inl (cy 1, 1601, .inl pf)), (a3, .inl (cy 2, 1601, .inr (.inl wf)))] := hD
          refine lv_if_eq (tgt := 47) hx hb dX8_goesOn_40 (by decide) (fun c13 => ?_) (fun c13 => ?_)
          · refine lv_iconst (v := 0) hx hb dX8_goesOn_47 (by decide) ?_
            have hP9 := hP.sub (ws' := [(h0, .inr (8, [.ref a1, .ref a2, .ref a3, .ref a4, .int (nI (k9 + 1)), .int ln, .int (nI at0), .int fa, .int fp])), (a1, .inl (cy 1, 1601, .inl kf)), (a2, .inl (cy 1, 1601, .inl pf)), (a3, .inl (cy 2, 1601, .inr (.inl wf)))]) [0, 1, 2, 3] rfl
            have hD9 := hD.sub (ws' := [(h0, .inr (8, [.ref a1, .ref a2, .ref a3, .ref a4, .int (nI (k9 + 1)), .int ln, .int (nI at0), .int fa, .int fp])), (a1, .inl (cy 1, 1601, .inl kf)), (a2, .inl (cy 1, 1601, .inl pf)), (a3, .inl (cy 2, 1601, .inr (.inl wf)))]) [0, 1, 2, 3] (by decide) rfl
            refine W.widen (k := 0) (n := 0) (Nat.le_of_ble_eq_true rfl) (Nat.le_of_ble_eq_true rfl) ?_
            exact W.zret (v := 0) hx hb hr rfl (fun t ht hW => ⟨⟨0, (), rfl, trivial, by rw [ht]; exact hP9, hD9⟩, hS.F ht⟩) hS.2.2 dX8_goesOn_48
          · refine lv_iconst (v := 1) hx hb dX8_goesOn_43 (by decide) ?_
            refine lv_goto (tgt := 48) hx hb dX8_goesOn_44 (by decide) ?_
            have hP9 := hP.sub (ws' := [(h0, .inr (8, [.ref a1, .ref a2, .ref a3, .ref a4, .int (nI (k9 + 1)), .int ln, .int (nI at0), .int fa, .int fp])), (a1, .inl (cy 1, 1601, .inl kf)), (a2, .inl (cy 1, 1601, .inl pf)), (a3, .inl (cy 2, 1601, .inr (.inl wf)))]) [0, 1, 2, 3] rfl
            have hD9 := hD.sub (ws' := [(h0, .inr (8, [.ref a1, .ref a2, .ref a3, .ref a4, .int (nI (k9 + 1)), .int ln, .int (nI at0), .int fa, .int fp])), (a1, .inl (cy 1, 1601, .inl kf)), (a2, .inl (cy 1, 1601, .inl pf)), (a3, .inl (cy 2, 1601, .inr (.inl wf)))]) [0, 1, 2, 3] (by decide) rfl
            refine W.widen (k := 0) (n := 0) (Nat.le_of_ble_eq_true rfl) (Nat.le_of_ble_eq_true rfl) ?_
            exact W.zret (v := 1) hx hb hr rfl (fun t ht hW => ⟨⟨1, (), rfl, trivial, by rw [ht]; exact hP9, hD9⟩, hS.F ht⟩) hS.2.2 dX8_goesOn_48
