theorem t_678 : (Jvm.Cond.instanceMethod ({ cls := "MakerStarts$Tokens", name := "fail", desc := "(I)V" } : Jvm.MethodName)) ∈ TB := inTB 678 (by decide +kernel) (by decide +kernel)
theorem t_679 : (Jvm.Cond.selects "MakerStarts$Tokens" ({ cls := "MakerStarts$Tokens", name := "fail", desc := "(I)V" } : Jvm.MethodName) ({ cls := "MakerStarts$Tokens", name := "fail", desc := "(I)V" } : Jvm.MethodName)) ∈ TB := inTB 679 (by decide +kernel) (by decide +kernel)
theorem t_680 : (Jvm.Cond.code ({ cls := "MakerStarts$Tokens", name := "fail", desc := "(I)V" } : Jvm.MethodName) prog_10_method_15_code (2 : Nat) (Option.none : Option Jvm.ClassFile.FieldType)) ∈ TB := inTB 680 (by decide +kernel) (by decide +kernel)
theorem t_759 : (Jvm.Cond.methodLink "MakerStarts$Tokens" (81 : Nat) ({ cls := "MakerStarts$Tokens", name := "fail", desc := "(I)V" } : Jvm.MethodName)) ∈ TB := inTB 759 (by decide +kernel) (by decide +kernel)
theorem dX8_isDigit_0 : decode cX8_isDigit 0 = .ok (.iload_n 0, 1) := by decide +kernel
theorem dX8_isDigit_1 : decode cX8_isDigit 1 = .ok (.bipush 48, 2) := by decide +kernel
theorem dX8_isDigit_3 : decode cX8_isDigit 3 = .ok (.if_icmp .lt 13, 3) := by decide +kernel
theorem dX8_isDigit_6 : decode cX8_isDigit 6 = .ok (.iload_n 0, 1) := by decide +kernel
theorem dX8_isDigit_7 : decode cX8_isDigit 7 = .ok (.bipush 57, 2) := by decide +kernel
theorem dX8_isDigit_9 : decode cX8_isDigit 9 = .ok (.if_icmp .gt 7, 3) := by decide +kernel
theorem dX8_isDigit_12 : decode cX8_isDigit 12 = .ok (.iconst 1, 1) := by decide +kernel
theorem dX8_isDigit_13 : decode cX8_isDigit 13 = .ok (.goto 4, 3) := by decide +kernel
theorem dX8_isDigit_16 : decode cX8_isDigit 16 = .ok (.iconst 0, 1) := by decide +kernel
theorem dX8_isDigit_17 : decode cX8_isDigit 17 = .ok (.ireturn, 1) := by decide +kernel
theorem dX8_isLetter_0 : decode cX8_isLetter 0 = .ok (.iload_n 0, 1) := by decide +kernel
theorem dX8_isLetter_1 : decode cX8_isLetter 1 = .ok (.bipush 97, 2) := by decide +kernel
theorem dX8_isLetter_3 : decode cX8_isLetter 3 = .ok (.if_icmp .lt 13, 3) := by decide +kernel
theorem dX8_isLetter_6 : decode cX8_isLetter 6 = .ok (.iload_n 0, 1) := by decide +kernel
theorem dX8_isLetter_7 : decode cX8_isLetter 7 = .ok (.bipush 122, 2) := by decide +kernel
theorem dX8_isLetter_9 : decode cX8_isLetter 9 = .ok (.if_icmp .gt 7, 3) := by decide +kernel
theorem dX8_isLetter_12 : decode cX8_isLetter 12 = .ok (.iconst 1, 1) := by decide +kernel
theorem dX8_isLetter_13 : decode cX8_isLetter 13 = .ok (.goto 4, 3) := by decide +kernel
theorem dX8_isLetter_16 : decode cX8_isLetter 16 = .ok (.iconst 0, 1) := by decide +kernel
theorem dX8_isLetter_17 : decode cX8_isLetter 17 = .ok (.ireturn, 1) := by decide +kernel
theorem dX8_need_0 : decode cX8_need 0 = .ok (.aload_n 0, 1) := by decide +kernel
theorem dX8_need_1 : decode cX8_need 1 = .ok (.getfield 46, 3) := by decide +kernel
theorem dX8_need_4 : decode cX8_need 4 = .ok (.ifCond .ne 40, 3) := by decide +kernel
theorem dX8_need_7 : decode cX8_need 7 = .ok (.aload_n 0, 1) := by decide +kernel
theorem dX8_need_8 : decode cX8_need 8 = .ok (.getfield 9, 3) := by decide +kernel
theorem dX8_need_11 : decode cX8_need 11 = .ok (.aload_n 0, 1) := by decide +kernel
theorem dX8_need_12 : decode cX8_need 12 = .ok (.getfield 43, 3) := by decide +kernel
theorem dX8_need_15 : decode cX8_need 15 = .ok (.iaload, 1) := by decide +kernel
theorem dX8_need_16 : decode cX8_need 16 = .ok (.iload_n 1, 1) := by decide +kernel
theorem dX8_need_17 : decode cX8_need 17 = .ok (.if_icmp .ne 27, 3) := by decide +kernel
theorem dX8_need_20 : decode cX8_need 20 = .ok (.aload_n 0, 1) := by decide +kernel
theorem dX8_need_21 : decode cX8_need 21 = .ok (.getfield 43, 3) := by decide +kernel
theorem dX8_need_24 : decode cX8_need 24 = .ok (.aload_n 0, 1) := by decide +kernel
theorem dX8_need_25 : decode cX8_need 25 = .ok (.getfield 37, 3) := by decide +kernel
theorem dX8_need_28 : decode cX8_need 28 = .ok (.if_icmp .ge 16, 3) := by decide +kernel
theorem dX8_need_31 : decode cX8_need 31 = .ok (.aload_n 0, 1) := by decide +kernel
theorem dX8_need_32 : decode cX8_need 32 = .ok (.dup, 1) := by decide +kernel
theorem dX8_need_33 : decode cX8_need 33 = .ok (.getfield 43, 3) := by decide +kernel
theorem dX8_need_36 : decode cX8_need 36 = .ok (.iconst 1, 1) := by decide +kernel
theorem dX8_need_37 : decode cX8_need 37 = .ok (.iadd, 1) := by decide +kernel
theorem dX8_need_38 : decode cX8_need 38 = .ok (.putfield 43, 3) := by decide +kernel
theorem dX8_need_41 : decode cX8_need 41 = .ok (.goto 8, 3) := by decide +kernel
theorem dX8_need_44 : decode cX8_need 44 = .ok (.aload_n 0, 1) := by decide +kernel
theorem dX8_need_45 : decode cX8_need 45 = .ok (.iconst 2, 1) := by decide +kernel
theorem dX8_need_46 : decode cX8_need 46 = .ok (.invokevirtual 81, 3) := by decide +kernel
theorem dX8_need_49 : decode cX8_need 49 = .ok (.return_, 1) := by decide +kernel
theorem dX8_take_0 : decode cX8_take 0 = .ok (.aload_n 0, 1) := by decide +kernel
theorem dX8_take_1 : decode cX8_take 1 = .ok (.getfield 46, 3) := by decide +kernel
theorem dX8_take_4 : decode cX8_take 4 = .ok (.ifCond .ne 16, 3) := by decide +kernel
theorem dX8_take_7 : decode cX8_take 7 = .ok (.aload_n 0, 1) := by decide +kernel
theorem dX8_take_8 : decode cX8_take 8 = .ok (.getfield 9, 3) := by decide +kernel
theorem dX8_take_11 : decode cX8_take 11 = .ok (.aload_n 0, 1) := by decide +kernel
theorem dX8_take_12 : decode cX8_take 12 = .ok (.getfield 43, 3) := by decide +kernel
theorem dX8_take_15 : decode cX8_take 15 = .ok (.iaload, 1) := by decide +kernel
theorem dX8_take_16 : decode cX8_take 16 = .ok (.iload_n 1, 1) := by decide +kernel
theorem dX8_take_17 : decode cX8_take 17 = .ok (.if_icmp .eq 5, 3) := by decide +kernel
theorem dX8_take_20 : decode cX8_take 20 = .ok (.iconst 0, 1) := by decide +kernel
theorem dX8_take_21 : decode cX8_take 21 = .ok (.ireturn, 1) := by decide +kernel
theorem dX8_take_22 : decode cX8_take 22 = .ok (.aload_n 0, 1) := by decide +kernel
theorem dX8_take_23 : decode cX8_take 23 = .ok (.getfield 43, 3) := by decide +kernel
theorem dX8_take_26 : decode cX8_take 26 = .ok (.aload_n 0, 1) := by decide +kernel
theorem dX8_take_27 : decode cX8_take 27 = .ok (.getfield 37, 3) := by decide +kernel
theorem dX8_take_30 : decode cX8_take 30 = .ok (.if_icmp .ge 13, 3) := by decide +kernel
theorem dX8_take_33 : decode cX8_take 33 = .ok (.aload_n 0, 1) := by decide +kernel
theorem dX8_take_34 : decode cX8_take 34 = .ok (.dup, 1) := by decide +kernel
theorem dX8_take_35 : decode cX8_take 35 = .ok (.getfield 43, 3) := by decide +kernel
theorem dX8_take_38 : decode cX8_take 38 = .ok (.iconst 1, 1) := by decide +kernel
theorem dX8_take_39 : decode cX8_take 39 = .ok (.iadd, 1) := by decide +kernel
theorem dX8_take_40 : decode cX8_take 40 = .ok (.putfield 43, 3) := by decide +kernel
theorem dX8_take_43 : decode cX8_take 43 = .ok (.iconst 1, 1) := by decide +kernel
theorem dX8_take_44 : decode cX8_take 44 = .ok (.ireturn, 1) := by decide +kernel
set_option maxHeartbeats 4000000 in
set_option maxRecDepth 100000 in
theorem g_isDigit (l : Launch) (D : va_G) (cy : Nat → ClassId) (sz : Nat) (p0 : Int32) : Met l yX8_isDigit (.code yX8_isDigit cX8_isDigit 1 (some .boolean) :: TB) ({ frames := 0, cells := 0, slots := 0, locals := 0 }) (va_Pc [.int p0] (fun U => U.heap.size = sz ∧ va_P D vwCl [] U.heap ∧ va_K D vwCl (TY cy) U ∧ va_D (fun _ => True) [])) (va_Qi (fun (r : Int32) (u : Unit) => (r = 0 ∨ r = 1)) (fun (u : Unit) t => va_P D vwCl [] t.heap ∧ va_D (va_A [] sz) []) (va_A [] sz)) 0 0 (va_A [] sz) := by
  refine Met.ofW (cc := cX8_isDigit) (maxL := 1) (ret := (some .boolean)) (by decide) rfl ?_
  intro p e s m args below meth c s₁ B hml hv
  obtain ⟨rfl, hsz, hP, hK, hD0⟩ := hv
  have hx := B.exec
  have hb := B.bytes
  have hr := B.returns
  have hts := atoms_spec (ws := .code yX8_isDigit cX8_isDigit 1 (some .boolean) :: TB) B.pre
  have hT : ∀ w ∈ TB, w.before _ s = true := fun w h => hts w (List.mem_cons_of_mem _ h)
  have hown : s.vm.findClass "MakerStarts$Tokens" = some m.cls := findClass_of_methodNamed B.named
  have hlocks := B.notSynchronized
  subst hsz
  have hD := hD0.self (sz := s.heap.size)
  generalize hAe : va_A [] s.heap.size = A at hD  ⊢
  have hA : ∀ q : Nat, s.heap.size ≤ q → A q := fun q h => by rw [← hAe]; exact Or.inr h
  have hS : va_S A s.heap s.heap [] := va_S.rf
  have hP : va_P D vwCl [] s.heap := hP
  have hl := lv_entry ([.int p0]) (n := 1) (Nat.le_of_ble_eq_true rfl)
  rw [lg_entry_eq]
  generalize (lg_sl ([.int p0]) ++ List.replicate (1 - (lg_sl ([.int p0])).length) Slot.unset).toArray = ls at hl ⊢
  have hl : lv_has ls 1 [(0, .int p0)] := hl
  refine lv_iload_n hx hb dX8_isDigit_0 rfl (lv_at hl 0 rfl) ?_
  refine lv_bipush (v := 48) hx hb dX8_isDigit_1 (by decide) ?_
  refine lv_icmp_lt (tgt := 16) hx hb dX8_isDigit_3 (by decide) (fun c1 => ?_) (fun c1 => ?_)
  · refine lv_iconst (v := 0) hx hb dX8_isDigit_16 (by decide) ?_
    have hP9 := hP.sub (ws' := []) [] rfl
    have hD9 := hD.sub (ws' := []) [] (by decide) rfl
    refine W.widen (k := 0) (n := 0) (Nat.le_of_ble_eq_true rfl) (Nat.le_of_ble_eq_true rfl) ?_
    exact W.zret (v := 0) hx hb hr rfl (fun t ht hW => ⟨⟨0, (), rfl, (Or.inl rfl), by rw [ht]; exact hP9, hD9⟩, hS.F ht⟩) hS.2.2 dX8_isDigit_17
  · refine lv_iload_n hx hb dX8_isDigit_6 rfl (lv_at hl 0 rfl) ?_
    refine lv_bipush (v := 57) hx hb dX8_isDigit_7 (by decide) ?_
    refine lv_icmp_gt (tgt := 16) hx hb dX8_isDigit_9 (by decide) (fun c2 => ?_) (fun c2 => ?_)
    · refine lv_iconst (v := 0) hx hb dX8_isDigit_16 (by decide) ?_
      have hP9 := hP.sub (ws' := []) [] rfl
      have hD9 := hD.sub (ws' := []) [] (by decide) rfl
      refine W.widen (k := 0) (n := 0) (Nat.le_of_ble_eq_true rfl) (Nat.le_of_ble_eq_true rfl) ?_
      exact W.zret (v := 0) hx hb hr rfl (fun t ht hW => ⟨⟨0, (), rfl, (Or.inl rfl), by rw [ht]; exact hP9, hD9⟩, hS.F ht⟩) hS.2.2 dX8_isDigit_17
    · refine lv_iconst (v := 1) hx hb dX8_isDigit_12 (by decide) ?_
      refine lv_goto (tgt := 17) hx hb dX8_isDigit_13 (by decide) ?_
      have hP9 := hP.sub (ws' := []) [] rfl
      have hD9 := hD.sub (ws' := []) [] (by decide) rfl
      refine W.widen (k := 0) (n := 0) (Nat.le_of_ble_eq_true rfl) (Nat.le_of_ble_eq_true rfl) ?_
      exact W.zret (v := 1) hx hb hr rfl (fun t ht hW => ⟨⟨1, (), rfl, (Or.inr rfl), by rw [ht]; exact hP9, hD9⟩, hS.F ht⟩) hS.2.2 dX8_isDigit_17

set_option maxHeartbeats 4000000 in
set_option maxRecDepth 100000 in
theorem g_isLetter (l : Launch) (D : va_G) (cy : Nat → ClassId) (sz : Nat) (p0 : Int32) : Met l yX8_isLetter (.code yX8_isLetter cX8_isLetter 1 (some .boolean) :: TB) ({ frames := 0, cells := 0, slots := 0, locals := 0 }) (va_Pc [.int p0] (fun U => U.heap.size = sz ∧ va_P D vwCl [] U.heap ∧ va_K D vwCl (TY cy) U ∧ va_D (fun _ => True) [])) (va_Qi (fun (r : Int32) (u : Unit) => (r = 0 ∨ r = 1)) (fun (u : Unit) t => va_P D vwCl [] t.heap ∧ va_D (va_A [] sz) []) (va_A [] sz)) 0 0 (va_A [] sz) := by
  refine Met.ofW (cc := cX8_isLetter) (maxL := 1) (ret := (some .boolean)) (by decide) rfl ?_
  intro p e s m args below meth c s₁ B hml hv
  obtain ⟨rfl, hsz, hP, hK, hD0⟩ := hv
  have hx := B.exec
  have hb := B.bytes
  have hr := B.returns
  have hts := atoms_spec (ws := .code yX8_isLetter cX8_isLetter 1 (some .boolean) :: TB) B.pre
  have hT : ∀ w ∈ TB, w.before _ s = true := fun w h => hts w (List.mem_cons_of_mem _ h)
  have hown : s.vm.findClass "MakerStarts$Tokens" = some m.cls := findClass_of_methodNamed B.named
  have hlocks := B.notSynchronized
  subst hsz
  have hD := hD0.self (sz := s.heap.size)
  generalize hAe : va_A [] s.heap.size = A at hD  ⊢
  have hA : ∀ q : Nat, s.heap.size ≤ q → A q := fun q h => by rw [← hAe]; exact Or.inr h
  have hS : va_S A s.heap s.heap [] := va_S.rf
  have hP : va_P D vwCl [] s.heap := hP
  have hl := lv_entry ([.int p0]) (n := 1) (Nat.le_of_ble_eq_true rfl)
  rw [lg_entry_eq]
  generalize (lg_sl ([.int p0]) ++ List.replicate (1 - (lg_sl ([.int p0])).length) Slot.unset).toArray = ls at hl ⊢
  have hl : lv_has ls 1 [(0, .int p0)] := hl
  refine lv_iload_n hx hb dX8_isLetter_0 rfl (lv_at hl 0 rfl) ?_
  refine lv_bipush (v := 97) hx hb dX8_isLetter_1 (by decide) ?_
  refine lv_icmp_lt (tgt := 16) hx hb dX8_isLetter_3 (by decide) (fun c1 => ?_) (fun c1 => ?_)
  · refine lv_iconst (v := 0) hx hb dX8_isLetter_16 (by decide) ?_
    have hP9 := hP.sub (ws' := []) [] rfl
    have hD9 := hD.sub (ws' := []) [] (by decide) rfl
    refine W.widen (k := 0) (n := 0) (Nat.le_of_ble_eq_true rfl) (Nat.le_of_ble_eq_true rfl) ?_
    exact W.zret (v := 0) hx hb hr rfl (fun t ht hW => ⟨⟨0, (), rfl, (Or.inl rfl), by rw [ht]; exact hP9, hD9⟩, hS.F ht⟩) hS.2.2 dX8_isLetter_17
  · refine lv_iload_n hx hb dX8_isLetter_6 rfl (lv_at hl 0 rfl) ?_
    refine lv_bipush (v := 122) hx hb dX8_isLetter_7 (by decide) ?_
    refine lv_icmp_gt (tgt := 16) hx hb dX8_isLetter_9 (by decide) (fun c2 => ?_) (fun c2 => ?_)
    · refine lv_iconst (v := 0) hx hb dX8_isLetter_16 (by decide) ?_
      have hP9 := hP.sub (ws' := []) [] rfl
      have hD9 := hD.sub (ws' := []) [] (by decide) rfl
      refine W.widen (k := 0) (n := 0) (Nat.le_of_ble_eq_true rfl) (Nat.le_of_ble_eq_true rfl) ?_
      exact W.zret (v := 0) hx hb hr rfl (fun t ht hW => ⟨⟨0, (), rfl, (Or.inl rfl), by rw [ht]; exact hP9, hD9⟩, hS.F ht⟩) hS.2.2 dX8_isLetter_17
    · refine lv_iconst (v := 1) hx hb dX8_isLetter_12 (by decide) ?_
      refine lv_goto (tgt := 17) hx hb dX8_isLetter_13 (by decide) ?_
      have hP9 := hP.sub (ws' := []) [] rfl
      have hD9 := hD.sub (ws' := []) [] (by decide) rfl
      refine W.widen (k := 0) (n := 0) (Nat.le_of_ble_eq_true rfl) (Nat.le_of_ble_eq_true rfl) ?_
      exact W.zret (v := 1) hx hb hr rfl (fun t ht hW => ⟨⟨1, (), rfl, (Or.inr rfl), by rw [ht]; exact hP9, hD9⟩, hS.F ht⟩) hS.2.2 dX8_isLetter_17

set_option maxHeartbeats 4000000 in
set_option maxRecDepth 100000 in
theorem g_take (l : Launch) (D : va_G) (cy : Nat → ClassId) (sz : Nat) (h0 : Nat) (a1 : Nat) (a2 : Nat) (a3 : Nat) (a4 : Nat) (kf : Nat → Int32) (pf : Nat → Int32) (wf : Nat → Int64) (cn : Nat) (ln : Int32) (at0 : Nat) (fa : Int32) (fp : Int32) (p0 : Int32) (hc : cn ≤ 1600) (ha : at0 ≤ cn) : Met l yX8_take (.code yX8_take cX8_take 2 (some .boolean) :: TB) ({ frames := 0, cells := 0, slots := 0, locals := 0 }) (va_Pc [.ref h0, .int p0] (fun U => U.heap.size = sz ∧ va_P D vwCl [(h0, .inr (8, [.ref a1, .ref a2, .ref a3, .ref a4, .int (nI cn), .int ln, .int (nI at0), .int fa, .int fp])), (a1, .inl (cy 1, 1601, .inl kf)), (a2, .inl (cy 1, 1601, .inl pf)), (a3, .inl (cy 2, 1601, .inr (.inl wf)))] U.heap ∧ va_K D vwCl (TY cy) U ∧ va_D (fun _ => True) [(h0, .inr (8, [.ref a1, .ref a2, .ref a3, .ref a4, .int (nI cn), .int ln, .int (nI at0), .int fa, .int fp])), (a1, .inl (cy 1, 1601, .inl kf)), (a2, .inl (cy 1, 1601, .inl pf)), (a3, .inl (cy 2, 1601, .inr (.inl wf)))])) (va_Qi (fun (r : Int32) (u : Nat × Int32 × Int32) => u.1 ≤ cn) (fun (u : Nat × Int32 × Int32) t => va_P D vwCl [(h0, .inr (8, [.ref a1, .ref a2, .ref a3, .ref a4, .int (nI cn), .int ln, .int (nI u.1), .int u.2.1, .int u.2.2])), (a1, .inl (cy 1, 1601, .inl kf)), (a2, .inl (cy 1, 1601, .inl pf)), (a3, .inl (cy 2, 1601, .inr (.inl wf)))] t.heap ∧ va_D (va_A [(h0, .inr (8, [.ref a1, .ref a2, .ref a3, .ref a4, .int (nI cn), .int ln, .int (nI at0), .int fa, .int fp])), (a1, .inl (cy 1, 1601, .inl kf)), (a2, .inl (cy 1, 1601, .inl pf)), (a3, .inl (cy 2, 1601, .inr (.inl wf)))] sz) [(h0, .inr (8, [.ref a1, .ref a2, .ref a3, .ref a4, .int (nI cn), .int ln, .int (nI u.1), .int u.2.1, .int u.2.2])), (a1, .inl (cy 1, 1601, .inl kf)), (a2, .inl (cy 1, 1601, .inl pf)), (a3, .inl (cy 2, 1601, .inr (.inl wf)))]) (va_A [(h0, .inr (8, [.ref a1, .ref a2, .ref a3, .ref a4, .int (nI cn), .int ln, .int (nI at0), .int fa, .int fp])), (a1, .inl (cy 1, 1601, .inl kf)), (a2, .inl (cy 1, 1601, .inl pf)), (a3, .inl (cy 2, 1601, .inr (.inl wf)))] sz)) 0 0 (va_A [(h0, .inr (8, [.ref a1, .ref a2, .ref a3, .ref a4, .int (nI cn), .int ln, .int (nI at0), .int fa, .int fp])), (a1, .inl (cy 1, 1601, .inl kf)), (a2, .inl (cy 1, 1601, .inl pf)), (a3, .inl (cy 2, 1601, .inr (.inl wf)))] sz) := by
  refine Met.ofW (cc := cX8_take) (maxL := 2) (ret := (some .boolean)) (by decide) rfl ?_
  intro p e s m args below meth c s₁ B hml hv
  obtain ⟨rfl, hsz, hP, hK, hD0⟩ := hv
  have hx := B.exec
  have hb := B.bytes
  have hr := B.returns
  have hts := atoms_spec (ws := .code yX8_take cX8_take 2 (some .boolean) :: TB) B.pre
  have hT : ∀ w ∈ TB, w.before _ s = true := fun w h => hts w (List.mem_cons_of_mem _ h)
  have hown : s.vm.findClass "MakerStarts$Tokens" = some m.cls := findClass_of_methodNamed B.named
  have hlocks := B.notSynchronized
  subst hsz
  have hD := hD0.self (sz := s.heap.size)
  generalize hAe : va_A [(h0, .inr (8, [.ref a1, .ref a2, .ref a3, .ref a4, .int (nI cn), .int ln, .int (nI at0), .int fa, .int fp])), (a1, .inl (cy 1, 1601, .inl kf)), (a2, .inl (cy 1, 1601, .inl pf)), (a3, .inl (cy 2, 1601, .inr (.inl wf)))] s.heap.size = A at hD  ⊢
  have hA : ∀ q : Nat, s.heap.size ≤ q → A q := fun q h => by rw [← hAe]; exact Or.inr h
  have hS : va_S A s.heap s.heap [] := va_S.rf
  have hP : va_P D vwCl [(h0, .inr (8, [.ref a1, .ref a2, .ref a3, .ref a4, .int (nI cn), .int ln, .int (nI at0), .int fa, .int fp])), (a1, .inl (cy 1, 1601, .inl kf)), (a2, .inl (cy 1, 1601, .inl pf)), (a3, .inl (cy 2, 1601, .inr (.inl wf)))] s.heap := hP
  have hl := lv_entry ([.ref h0, .int p0]) (n := 2) (Nat.le_of_ble_eq_true rfl)
  rw [lg_entry_eq]
  generalize (lg_sl ([.ref h0, .int p0]) ++ List.replicate (2 - (lg_sl ([.ref h0, .int p0])).length) Slot.unset).toArray = ls at hl ⊢
  have hl : lv_has ls 2 [(0, .ref h0), (1, .int p0)] := hl
  refine lv_aload_n hx hb dX8_take_0 rfl (lv_at hl 0 rfl) ?_
  refine va_get (D := D) (ci := 8) (v := .int fa) (C := RX8) (T := TX8) (N := 9) hx hb hT i_TX8 hown hK hP 0 rfl rfl 7 (by decide) (hT _ t_323) (fun _ h9 => h9) rfl dX8_take_1 ?_
  refine lv_if_ne (tgt := 20) hx hb dX8_take_4 (by decide) (fun c1 => ?_) (fun c1 => ?_)
  · refine lv_iconst (v := 0) hx hb dX8_take_20 (by decide) ?_
    have hP9 := hP.sub (ws' := [(h0, .inr (8, [.ref a1, .ref a2, .ref a3, .ref a4, .int (nI cn), .int ln, .int (nI at0), .int fa, .int fp])), (a1, .inl (cy 1, 1601, .inl kf)), (a2, .inl (cy 1, 1601, .inl pf)), (a3, .inl (cy 2, 1601, .inr (.inl wf)))]) [0, 1, 2, 3] rfl
    have hD9 := hD.sub (ws' := [(h0, .inr (8, [.ref a1, .ref a2, .ref a3, .ref a4, .int (nI cn), .int ln, .int (nI at0), .int fa, .int fp])), (a1, .inl (cy 1, 1601, .inl kf)), (a2, .inl (cy 1, 1601, .inl pf)), (a3, .inl (cy 2, 1601, .inr (.inl wf)))]) [0, 1, 2, 3] (by decide) rfl
    refine W.widen (k := 0) (n := 0) (Nat.le_of_ble_eq_true rfl) (Nat.le_of_ble_eq_true rfl) ?_
    exact W.zret (v := 0) hx hb hr rfl (fun t ht hW => ⟨⟨0, (at0, fa, fp), rfl, ha, by rw [ht]; exact hP9, hD9⟩, hS.F ht⟩) hS.2.2 dX8_take_21
  · refine lv_aload_n hx hb dX8_take_7 rfl (lv_at hl 0 rfl) ?_
    refine va_get (D := D) (ci := 8) (v := .ref a1) (C := RX8) (T := TX8) (N := 9) hx hb hT i_TX8 hown hK hP 0 rfl rfl 0 (by decide) (hT _ t_316) (fun _ h9 => h9) rfl dX8_take_8 ?_
    refine lv_aload_n hx hb dX8_take_11 rfl (lv_at hl 0 rfl) ?_
    refine va_get (D := D) (ci := 8) (v := .int (nI at0)) (C := RX8) (T := TX8) (N := 9) hx hb hT i_TX8 hown hK hP 0 rfl rfl 6 (by decide) (hT _ t_322) (fun _ h9 => h9) rfl dX8_take_12 ?_
    refine va_iald hx hb hK hP 1 1 rfl rfl (vp_in_nI (by omega) (by decide)) dX8_take_15 ?_
    refine lv_topi (fun z2 e3 => ?_)
    refine lv_iload_n hx hb dX8_take_16 rfl (lv_at hl 1 rfl) ?_
    refine lv_icmp_eq (tgt := 22) hx hb dX8_take_17 (by decide) (fun c4 => ?_) (fun c4 => ?_)
    · refine lv_aload_n hx hb dX8_take_22 rfl (lv_at hl 0 rfl) ?_
      refine va_get (D := D) (ci := 8) (v := .int (nI at0)) (C := RX8) (T := TX8) (N := 9) hx hb hT i_TX8 hown hK hP 0 rfl rfl 6 (by decide) (hT _ t_322) (fun _ h9 => h9) rfl dX8_take_23 ?_
      refine lv_aload_n hx hb dX8_take_26 rfl (lv_at hl 0 rfl) ?_
      refine va_get (D := D) (ci := 8) (v := .int (nI cn)) (C := RX8) (T := TX8) (N := 9) hx hb hT i_TX8 hown hK hP 0 rfl rfl 4 (by decide) (hT _ t_320) (fun _ h9 => h9) rfl dX8_take_27 ?_
      refine lv_icmp_ge (tgt := 43) hx hb dX8_take_30 (by decide) (fun c5 => ?_) (fun c5 => ?_)
      · refine lv_iconst (v := 1) hx hb dX8_take_43 (by decide) ?_
        have hP9 := hP.sub (ws' := [(h0, .inr (8, [.ref a1, .ref a2, .ref a3, .ref a4, .int (nI cn), .int ln, .int (nI at0), .int fa, .int fp])), (a1, .inl (cy 1, 1601, .inl kf)), (a2, .inl (cy 1, 1601, .inl pf)), (a3, .inl (cy 2, 1601, .inr (.inl wf)))]) [0, 1, 2, 3] rfl
        have hD9 := hD.sub (ws' := [(h0, .inr (8, [.ref a1, .ref a2, .ref a3, .ref a4, .int (nI cn), .int ln, .int (nI at0), .int fa, .int fp])), (a1, .inl (cy 1, 1601, .inl kf)), (a2, .inl (cy 1, 1601, .inl pf)), (a3, .inl (cy 2, 1601, .inr (.inl wf)))]) [0, 1, 2, 3] (by decide) rfl
        refine W.widen (k := 0) (n := 0) (Nat.le_of_ble_eq_true rfl) (Nat.le_of_ble_eq_true rfl) ?_
        exact W.zret (v := 1) hx hb hr rfl (fun t ht hW => ⟨⟨1, (at0, fa, fp), rfl, ha, by rw [ht]; exact hP9, hD9⟩, hS.F ht⟩) hS.2.2 dX8_take_44
      · have hlt : at0 < cn := by
          rcases Nat.lt_or_ge at0 cn with q | q
          · exact q
          · exact absurd (nI_le q (by omega)) c5
        refine lv_aload_n hx hb dX8_take_33 rfl (lv_at hl 0 rfl) ?_
        refine lv_dup hx hb dX8_take_34 rfl ?_
        refine va_get (D := D) (ci := 8) (v := .int (nI at0)) (C := RX8) (T := TX8) (N := 9) hx hb hT i_TX8 hown hK hP 0 rfl rfl 6 (by decide) (hT _ t_322) (fun _ h9 => h9) rfl dX8_take_35 ?_
        refine lv_iconst (v := 1) hx hb dX8_take_38 (by decide) ?_
        refine lv_iadd hx hb dX8_take_39 ?_
        refine lv_topi (fun z6 e7 => ?_)
        obtain rfl : z6 = nI (at0 + 1) := e7.trans (nI_1 at0)
        refine va_put (D := D) (ci := 8) (v := .int (nI (at0 + 1))) (ty := .int) (C := RX8) (T := TX8) (N := 9) hx hb hT i_TX8 tyX8 tyX8_ok nmX8 hown hK hP hD hS 0 rfl rfl 6 (by decide) (hT _ t_322) (fun _ h9 => h9) rfl (by decide +kernel) rfl rfl (Nat.le_of_ble_eq_true rfl) dX8_take_40 (fun H locs hP hD hS => ?_)
        have hP : va_P D vwCl [(h0, .inr (8, [.ref a1, .ref a2, .ref a3, .ref a4, .int (nI cn), .int ln, .int (nI (at0 + 1)), .int fa, .int fp])), (a1, .inl (cy 1, 1601, .inl kf)), (a2, .inl (cy 1, 1601, .inl pf)), (a3, .inl (cy 2, 1601, .inr (.inl wf)))] H := hP
        have hD : va_D A [(h0, .inr (8, [.ref a1, .ref a2, .ref a3, .ref a4, .int (nI cn), .int ln, .int (nI (at0 + 1)), .int fa, .int fp])), (a1, .inl (cy 1, 1601, .inl kf)), (a2, .inl (cy 1, 1601, .inl pf)), (a3, .inl (cy 2, 1601, .inr (.inl wf)))] := hD
        refine lv_iconst (v := 1) hx hb dX8_take_43 (by decide) ?_
        have hP9 := hP.sub (ws' := [(h0, .inr (8, [.ref a1, .ref a2, .ref a3, .ref a4, .int (nI cn), .int ln, .int (nI (at0 + 1)), .int fa, .int fp])), (a1, .inl (cy 1, 1601, .inl kf)), (a2, .inl (cy 1, 1601, .inl pf)), (a3, .inl (cy 2, 1601, .inr (.inl wf)))]) [0, 1, 2, 3] rfl
        have hD9 := hD.sub (ws' := [(h0, .inr (8, [.ref a1, .ref a2, .ref a3, .ref a4, .int (nI cn), .int ln, .int (nI (at0 + 1)), .int fa, .int fp])), (a1, .inl (cy 1, 1601, .inl kf)), (a2, .inl (cy 1, 1601, .inl pf)), (a3, .inl (cy 2, 1601, .inr (.inl wf)))]) [0, 1, 2, 3] (by decide) rfl
        refine W.widen (k := 0) (n := 0) (Nat.le_of_ble_eq_true rfl) (Nat.le_of_ble_eq_true rfl) ?_
        exact W.zret (v := 1) hx hb hr rfl (fun t ht hW => ⟨⟨1, ((at0 + 1), fa, fp), rfl, (show at0 + 1 ≤ cn from hlt), by rw [ht]; exact hP9, hD9⟩, hS.F ht⟩) hS.2.2 dX8_take_44
    · refine lv_iconst (v := 0) hx hb dX8_take_20 (by decide) ?_
      have hP9 := hP.sub (ws' := [(h0, .inr (8, [.ref a1, .ref a2, .ref a3, .ref a4, .int (nI cn), .int ln, .int (nI at0), .int fa, .int fp])), (a1, .inl (cy 1, 1601, .inl kf)), (a2, .inl (cy 1, 1601, .inl pf)), (a3, .inl (cy 2, 1601, .inr (.inl wf)))]) [0, 1, 2, 3] rfl
      have hD9 := hD.sub (ws' := [(h0, .inr (8, [.ref a1, .ref a2, .ref a3, .ref a4, .int (nI cn), .int ln, .int (nI at0), .int fa, .int fp])), (a1, .inl (cy 1, 1601, .inl kf)), (a2, .inl (cy 1, 1601, .inl pf)), (a3, .inl (cy 2, 1601, .inr (.inl wf)))]) [0, 1, 2, 3] (by decide) rfl
      refine W.widen (k := 0) (n := 0) (Nat.le_of_ble_eq_true rfl) (Nat.le_of_ble_eq_true rfl) ?_
      exact W.zret (v := 0) hx hb hr rfl (fun t ht hW => ⟨⟨0, (at0, fa, fp), rfl, ha, by rw [ht]; exact hP9, hD9⟩, hS.F ht⟩) hS.2.2 dX8_take_21

set_option maxHeartbeats 4000000 in
set_option maxRecDepth 100000 in
theorem g_need (l : Launch) (D : va_G) (cy : Nat → ClassId) (sz : Nat) (h0 : Nat) (a1 : Nat) (a2 : Nat) (a3 : Nat) (a4 : Nat) (kf : Nat → Int32) (pf : Nat → Int32) (wf : Nat → Int64) (cn : Nat) (ln : Int32) (at0 : Nat) (fa : Int32) (fp : Int32) (p0 : Int32) (hc : cn ≤ 1600) (ha : at0 ≤ cn) : Met l yX8_need (.code yX8_need cX8_need 2 none :: TB) ({ frames := 1, cells := 0, slots := 0, locals := 21 }) (va_Pc [.ref h0, .int p0] (fun U => U.heap.size = sz ∧ va_P D vwCl [(h0, .inr (8, [.ref a1, .ref a2, .ref a3, .ref a4, .int (nI cn), .int ln, .int (nI at0), .int fa, .int fp])), (a1, .inl (cy 1, 1601, .inl kf)), (a2, .inl (cy 1, 1601, .inl pf)), (a3, .inl (cy 2, 1601, .inr (.inl wf)))] U.heap ∧ va_K D vwCl (TY cy) U ∧ va_D (fun _ => True) [(h0, .inr (8, [.ref a1, .ref a2, .ref a3, .ref a4, .int (nI cn), .int ln, .int (nI at0), .int fa, .int fp])), (a1, .inl (cy 1, 1601, .inl kf)), (a2, .inl (cy 1, 1601, .inl pf)), (a3, .inl (cy 2, 1601, .inr (.inl wf)))])) (va_Qv (fun (u : Nat × Int32 × Int32) => u.1 ≤ cn) (fun (u : Nat × Int32 × Int32) t => va_P D vwCl [(h0, .inr (8, [.ref a1, .ref a2, .ref a3, .ref a4, .int (nI cn), .int ln, .int (nI u.1), .int u.2.1, .int u.2.2])), (a1, .inl (cy 1, 1601, .inl kf)), (a2, .inl (cy 1, 1601, .inl pf)), (a3, .inl (cy 2, 1601, .inr (.inl wf)))] t.heap ∧ va_D (va_A [(h0, .inr (8, [.ref a1, .ref a2, .ref a3, .ref a4, .int (nI cn), .int ln, .int (nI at0), .int fa, .int fp])), (a1, .inl (cy 1, 1601, .inl kf)), (a2, .inl (cy 1, 1601, .inl pf)), (a3, .inl (cy 2, 1601, .inr (.inl wf)))] sz) [(h0, .inr (8, [.ref a1, .ref a2, .ref a3, .ref a4, .int (nI cn), .int ln, .int (nI u.1), .int u.2.1, .int u.2.2])), (a1, .inl (cy 1, 1601, .inl kf)), (a2, .inl (cy 1, 1601, .inl pf)), (a3, .inl (cy 2, 1601, .inr (.inl wf)))]) (va_A [(h0, .inr (8, [.ref a1, .ref a2, .ref a3, .ref a4, .int (nI cn), .int ln, .int (nI at0), .int fa, .int fp])), (a1, .inl (cy 1, 1601, .inl kf)), (a2, .inl (cy 1, 1601, .inl pf)), (a3, .inl (cy 2, 1601, .inr (.inl wf)))] sz)) 0 0 (va_A [(h0, .inr (8, [.ref a1, .ref a2, .ref a3, .ref a4, .int (nI cn), .int ln, .int (nI at0), .int fa, .int fp])), (a1, .inl (cy 1, 1601, .inl kf)), (a2, .inl (cy 1, 1601, .inl pf)), (a3, .inl (cy 2, 1601, .inr (.inl wf)))] sz) := by
  refine Met.ofW (cc := cX8_need) (maxL := 2) (ret := none) (by decide) rfl ?_
  intro p e s m args below meth c s₁ B hml hv
  obtain ⟨rfl, hsz, hP, hK, hD0⟩ := hv
  have hx := B.exec
  have hb := B.bytes
  have hr := B.returns
  have hts := atoms_spec (ws := .code yX8_need cX8_need 2 none :: TB) B.pre
  have hT : ∀ w ∈ TB, w.before _ s = true := fun w h => hts w (List.mem_cons_of_mem _ h)
  have hown : s.vm.findClass "MakerStarts$Tokens" = some m.cls := findClass_of_methodNamed B.named
  have hlocks := B.notSynchronized
  subst hsz
  have hD := hD0.self (sz := s.heap.size)
  generalize hAe : va_A [(h0, .inr (8, [.ref a1, .ref a2, .ref a3, .ref a4, .int (nI cn), .int ln, .int (nI at0), .int fa, .int fp])), (a1, .inl (cy 1, 1601, .inl kf)), (a2, .inl (cy 1, 1601, .inl pf)), (a3, .inl (cy 2, 1601, .inr (.inl wf)))] s.heap.size = A at hD  ⊢
  have hA : ∀ q : Nat, s.heap.size ≤ q → A q := fun q h => by rw [← hAe]; exact Or.inr h
  have hS : va_S A s.heap s.heap [] := va_S.rf
  have hP : va_P D vwCl [(h0, .inr (8, [.ref a1, .ref a2, .ref a3, .ref a4, .int (nI cn), .int ln, .int (nI at0), .int fa, .int fp])), (a1, .inl (cy 1, 1601, .inl kf)), (a2, .inl (cy 1, 1601, .inl pf)), (a3, .inl (cy 2, 1601, .inr (.inl wf)))] s.heap := hP
  have hl := lv_entry ([.ref h0, .int p0]) (n := 2) (Nat.le_of_ble_eq_true rfl)
  rw [lg_entry_eq]
  generalize (lg_sl ([.ref h0, .int p0]) ++ List.replicate (2 - (lg_sl ([.ref h0, .int p0])).length) Slot.unset).toArray = ls at hl ⊢
  have hl : lv_has ls 2 [(0, .ref h0), (1, .int p0)] := hl
  refine lv_aload_n hx hb dX8_need_0 rfl (lv_at hl 0 rfl) ?_
  refine va_get (D := D) (ci := 8) (v := .int fa) (C := RX8) (T := TX8) (N := 9) hx hb hT i_TX8 hown hK hP 0 rfl rfl 7 (by decide) (hT _ t_323) (fun _ h9 => h9) rfl dX8_need_1 ?_
  refine lv_if_ne (tgt := 44) hx hb dX8_need_4 (by decide) (fun c1 => ?_) (fun c1 => ?_)
  · refine lv_aload_n hx hb dX8_need_44 rfl (lv_at hl 0 rfl) ?_
    refine lv_iconst (v := 2) hx hb dX8_need_45 (by decide) ?_
    have hPc := hP.sub (ws' := [(h0, .inr (8, [.ref a1, .ref a2, .ref a3, .ref a4, .int (nI cn), .int ln, .int (nI at0), .int fa, .int fp])), (a1, .inl (cy 1, 1601, .inl kf)), (a2, .inl (cy 1, 1601, .inl pf)), (a3, .inl (cy 2, 1601, .inr (.inl wf)))]) [0, 1, 2, 3] rfl
    have hDc := hD.sub (ws' := [(h0, .inr (8, [.ref a1, .ref a2, .ref a3, .ref a4, .int (nI cn), .int ln, .int (nI at0), .int fa, .int fp])), (a1, .inl (cy 1, 1601, .inl kf)), (a2, .inl (cy 1, 1601, .inl pf)), (a3, .inl (cy 2, 1601, .inr (.inl wf)))]) [0, 1, 2, 3] (by decide) rfl
    have hFc := va_free (wc := [(h0, .inr (8, [.ref a1, .ref a2, .ref a3, .ref a4, .int (nI cn), .int ln, .int (nI at0), .int fa, .int fp])), (a1, .inl (cy 1, 1601, .inl kf)), (a2, .inl (cy 1, 1601, .inl pf)), (a3, .inl (cy 2, 1601, .inr (.inl wf)))]) hD hS hA [0, 1, 2, 3] rfl
    refine va_callv (va_runV (As := [.int 2]) (rest := []) ⟨hx, hb, hml, hown, hT⟩ (g_fail l D cy s.heap.size h0 a1 a2 a3 a4 kf pf wf cn ln at0 fa fp 2 hc ha) (cwV 1 hT (gTBV t_759 t_678 t_679 t_144 t_680) rfl rfl rfl (by decide +kernel) ⟨Nat.le_of_ble_eq_true rfl, Nat.le_of_ble_eq_true rfl⟩) ⟨fun a U g mk q => by obtain ⟨q0, q1, qP, qK, qD⟩ := q; exact ⟨q0, q1, qP, va_K.moved (u := U) (U := U.calling g mk a) (Vm.Alike.refl U.vm) qK, qD⟩, va_recv hK hPc (ci := 8) (q0 := 0) rfl rfl, fun U hU hW => ⟨rfl, by rw [hU], by rw [hU]; exact hPc, va_K.moved hW.alike hK, hDc.weaken (fun _ _ _ _ => trivial)⟩⟩ rfl rfl hl.1 rfl (lv_room (Nat.le_of_ble_eq_true rfl)) dX8_need_46 ⟨Nat.le_of_ble_eq_true rfl, Nat.le_of_ble_eq_true rfl⟩) hS (fun q _ h => hFc q h) hFc (fun  u t H1 locs ht hvm w2 hB hz1 hk1 hS => ?_)
    obtain ⟨k3, k4, k5⟩ := u
    obtain ⟨hP1, hD1⟩ := hB
    rw [ht] at hP1
    obtain ⟨hP, hD⟩ := va_join (wr := []) (w1 := [(h0, .inr (8, [.ref a1, .ref a2, .ref a3, .ref a4, .int (nI cn), .int ln, .int (nI k3), .int k4, .int k5])), (a1, .inl (cy 1, 1601, .inl kf)), (a2, .inl (cy 1, 1601, .inl pf)), (a3, .inl (cy 2, 1601, .inr (.inl wf)))]) hP hD [0, 1, 2, 3] [] rfl rfl (by decide) (by decide) hk1 hFc hP1 hD1
    generalize H1 = H at hP hS ⊢
    have hP : va_P D vwCl [(h0, .inr (8, [.ref a1, .ref a2, .ref a3, .ref a4, .int (nI cn), .int ln, .int (nI k3), .int k4, .int k5])), (a1, .inl (cy 1, 1601, .inl kf)), (a2, .inl (cy 1, 1601, .inl pf)), (a3, .inl (cy 2, 1601, .inr (.inl wf)))] H := hP
    have hD : va_D A [(h0, .inr (8, [.ref a1, .ref a2, .ref a3, .ref a4, .int (nI cn), .int ln, .int (nI k3), .int k4, .int k5])), (a1, .inl (cy 1, 1601, .inl kf)), (a2, .inl (cy 1, 1601, .inl pf)), (a3, .inl (cy 2, 1601, .inr (.inl wf)))] := hD
    have hP9 := hP.sub (ws' := [(h0, .inr (8, [.ref a1, .ref a2, .ref a3, .ref a4, .int (nI cn), .int ln, .int (nI k3), .int k4, .int k5])), (a1, .inl (cy 1, 1601, .inl kf)), (a2, .inl (cy 1, 1601, .inl pf)), (a3, .inl (cy 2, 1601, .inr (.inl wf)))]) [0, 1, 2, 3] rfl
    have hD9 := hD.sub (ws' := [(h0, .inr (8, [.ref a1, .ref a2, .ref a3, .ref a4, .int (nI cn), .int ln, .int (nI k3), .int k4, .int k5])), (a1, .inl (cy 1, 1601, .inl kf)), (a2, .inl (cy 1, 1601, .inl pf)), (a3, .inl (cy 2, 1601, .inr (.inl wf)))]) [0, 1, 2, 3] (by decide) rfl
    refine W.widen (k := 0) (n := 0) (Nat.le_of_ble_eq_true rfl) (Nat.le_of_ble_eq_true rfl) ?_
    exact W.vret hx hb hr (fun t ht hW => ⟨⟨(k3, k4, k5), rfl, w2, by rw [ht]; exact hP9, hD9⟩, hS.F ht⟩) hS.2.2 dX8_need_49
  · refine lv_aload_n hx hb dX8_need_7 rfl (lv_at hl 0 rfl) ?_
    refine va_get (D := D) (ci := 8) (v := .ref a1) (C := RX8) (T := TX8) (N := 9) hx hb hT i_TX8 hown hK hP 0 rfl rfl 0 (by decide) (hT _ t_316) (fun _ h9 => h9) rfl dX8_need_8 ?_
    refine lv_aload_n hx hb dX8_need_11 rfl (lv_at hl 0 rfl) ?_
    refine va_get (D := D) (ci := 8) (v := .int (nI at0)) (C := RX8) (T := TX8) (N := 9) hx hb hT i_TX8 hown hK hP 0 rfl rfl 6 (by decide) (hT _ t_322) (fun _ h9 => h9) rfl dX8_need_12 ?_
    refine va_iald hx hb hK hP 1 1 rfl rfl (vp_in_nI (by omega) (by decide)) dX8_need_15 ?_
    refine lv_topi (fun z6 e7 => ?_)
    refine lv_iload_n hx hb dX8_need_16 rfl (lv_at hl 1 rfl) ?_
    refine lv_icmp_ne (tgt := 44) hx hb dX8_need_17 (by decide) (fun c8 => ?_) (fun c8 => ?_)
    · refine lv_aload_n hx hb dX8_need_44 rfl (lv_at hl 0 rfl) ?_
      refine lv_iconst (v := 2) hx hb dX8_need_45 (by decide) ?_
      have hPc := hP.sub (ws' := [(h0, .inr (8, [.ref a1, .ref a2, .ref a3, .ref a4, .int (nI cn), .int ln, .int (nI at0), .int fa, .int fp])), (a1, .inl (cy 1, 1601, .inl kf)), (a2, .inl (cy 1, 1601, .inl pf)), (a3, .inl (cy 2, 1601, .inr (.inl wf)))]) [0, 1, 2, 3] rfl
      have hDc := hD.sub (ws' := [(h0, .inr (8, [.ref a1, .ref a2, .ref a3, .ref a4, .int (nI cn), .int ln, .int (nI at0), .int fa, .int fp])), (a1, .inl (cy 1, 1601, .inl kf)), (a2, .inl (cy 1, 1601, .inl pf)), (a3, .inl (cy 2, 1601, .inr (.inl wf)))]) [0, 1, 2, 3] (by decide) rfl
      have hFc := va_free (wc := [(h0, .inr (8, [.ref a1, .ref a2, .ref a3, .ref a4, .int (nI cn), .int ln, .int (nI at0), .int fa, .int fp])), (a1, .inl (cy 1, 1601, .inl kf)), (a2, .inl (cy 1, 1601, .inl pf)), (a3, .inl (cy 2, 1601, .inr (.inl wf)))]) hD hS hA [0, 1, 2, 3] rfl
      refine va_callv (va_runV (As := [.int 2]) (rest := []) ⟨hx, hb, hml, hown, hT⟩ (g_fail l D cy s.heap.size h0 a1 a2 a3 a4 kf pf wf cn ln at0 fa fp 2 hc ha) (cwV 1 hT (gTBV t_759 t_678 t_679 t_144 t_680) rfl rfl rfl (by decide +kernel) ⟨Nat.le_of_ble_eq_true rfl, Nat.le_of_ble_eq_true rfl⟩) ⟨fun a U g mk q => by obtain ⟨q0, q1, qP, qK, qD⟩ := q; exact ⟨q0, q1, qP, va_K.moved (u := U) (U := U.calling g mk a) (Vm.Alike.refl U.vm) qK, qD⟩, va_recv hK hPc (ci := 8) (q0 := 0) rfl rfl, fun U hU hW => ⟨rfl, by rw [hU], by rw [hU]; exact hPc, va_K.moved hW.alike hK, hDc.weaken (fun _ _ _ _ => trivial)⟩⟩ rfl rfl hl.1 rfl (lv_room (Nat.le_of_ble_eq_true rfl)) dX8_need_46 ⟨Nat.le_of_ble_eq_true rfl, Nat.le_of_ble_eq_true rfl⟩) hS (fun q _ h => hFc q h) hFc (fun  u t H1 locs ht hvm w9 hB hz1 hk1 hS => ?_)
      obtain ⟨k10, k11, k12⟩ := u
      obtain ⟨hP1, hD1⟩ := hB
      rw [ht] at hP1
      obtain ⟨hP, hD⟩ := va_join (wr := []) (w1 := [(h0, .inr (8, [.ref a1, .ref a2, .ref a3, .ref a4, .int (nI cn), .int ln, .int (nI k10), .int k11, .int k12])), (a1, .inl (cy 1, 1601, .inl kf)), (a2, .inl (cy 1, 1601, .inl pf)), (a3, .inl (cy 2, 1601, .inr (.inl wf)))]) hP hD [0, 1, 2, 3] [] rfl rfl (by decide) (by decide) hk1 hFc hP1 hD1
      generalize H1 = H at hP hS ⊢
      have hP : va_P D vwCl [(h0, .inr (8, [.ref a1, .ref a2, .ref a3, .ref a4, .int (nI cn), .int ln, .int (nI k10), .int k11, .int k12])), (a1, .inl (cy 1, 1601, .inl kf)), (a2, .inl (cy 1, 1601, .inl pf)), (a3, .inl (cy 2, 1601, .inr (.inl wf)))] H := hP
      have hD : va_D A [(h0, .inr (8, [.ref a1, .ref a2, .ref a3, .ref a4, .int (nI cn), .int ln, .int (nI k10), .int k11, .int k12])), (a1, .inl (cy 1, 1601, .inl kf)), (a2, .inl (cy 1, 1601, .inl pf)), (a3, .inl (cy 2, 1601, .inr (.inl wf)))] := hD
      have hP9 := hP.sub (ws' := [(h0, .inr (8, [.ref a1, .ref a2, .ref a3, .ref a4, .int (nI cn), .int ln, .int (nI k10), .int k11, .int k12])), (a1, .inl (cy 1, 1601, .inl kf)), (a2, .inl (cy 1, 1601, .inl pf)), (a3, .inl (cy 2, 1601, .inr (.inl wf)))]) [0, 1, 2, 3] rfl
      have hD9 := hD.sub (ws' := [(h0, .inr (8, [.ref a1, .ref a2, .ref a3, .ref a4, .int (nI cn), .int ln, .int (nI k10), .int k11, .int k12])), (a1, .inl (cy 1, 1601, .inl kf)), (a2, .inl (cy 1, 1601, .inl pf)), (a3, .inl (cy 2, 1601, .inr (.inl wf)))]) [0, 1, 2, 3] (by decide) rfl
      refine W.widen (k := 0) (n := 0) (Nat.le_of_ble_eq_true rfl) (Nat.le_of_ble_eq_true rfl) ?_
      exact W.vret hx hb hr (fun t ht hW => ⟨⟨(k10, k11, k12), rfl, w9, by rw [ht]; exact hP9, hD9⟩, hS.F ht⟩) hS.2.2 dX8_need_49
    · refine lv_aload_n hx hb dX8_need_20 rfl (lv_at hl 0 rfl) ?_
      refine va_get (D := D) (ci := 8) (v := .int (nI at0)) (C := RX8) (T := TX8) (N := 9) hx hb hT i_TX8 hown hK hP 0 rfl rfl 6 (by decide) (hT _ t_322) (fun _ h9 => h9) rfl dX8_need_21 ?_
      refine lv_aload_n hx hb dX8_need_24 rfl (lv_at hl 0 rfl) ?_
      refine va_get (D := D) (ci := 8) (v := .int (nI cn)) (C := RX8) (T := TX8) (N := 9) hx hb hT i_TX8 hown hK hP 0 rfl rfl 4 (by decide) (hT _ t_320) (fun _ h9 => h9) rfl dX8_need_25 ?_
      refine lv_icmp_ge (tgt := 44) hx hb dX8_need_28 (by decide) (fun c13 => ?_) (fun c13 => ?_)
      · refine lv_aload_n hx hb dX8_need_44 rfl (lv_at hl 0 rfl) ?_
        refine lv_iconst (v := 2) hx hb dX8_need_45 (by decide) ?_
        have hPc := hP.sub (ws' := [(h0, .inr (8, [.ref a1, .ref a2, .ref a3, .ref a4, .int (nI cn), .int ln, .int (nI at0), .int fa, .int fp])), (a1, .inl (cy 1, 1601, .inl kf)), (a2, .inl (cy 1, 1601, .inl pf)), (a3, .inl (cy 2, 1601, .inr (.inl wf)))]) [0, 1, 2, 3] rfl
        have hDc := hD.sub (ws' := [(h0, .inr (8, [.ref a1, .ref a2, .ref a3, .ref a4, .int (nI cn), .int ln, .int (nI at0), .int fa, .int fp])), (a1, .inl (cy 1, 1601, .inl kf)), (a2, .inl (cy 1, 1601, .inl pf)), (a3, .inl (cy 2, 1601, .inr (.inl wf)))]) [0, 1, 2, 3] (by decide) rfl
        have hFc := va_free (wc := [(h0, .inr (8, [.ref a1, .ref a2, .ref a3, .ref a4, .int (nI cn), .int ln, .int (nI at0), .int fa, .int fp])), (a1, .inl (cy 1, 1601, .inl kf)), (a2, .inl (cy 1, 1601, .inl pf)), (a3, .inl (cy 2, 1601, .inr (.inl wf)))]) hD hS hA [0, 1, 2, 3] rfl
        refine va_callv (va_runV (As := [.int 2]) (rest := []) ⟨hx, hb, hml, hown, hT⟩ (g_fail l D cy s.heap.size h0 a1 a2 a3 a4 kf pf wf cn ln at0 fa fp 2 hc ha) (cwV 1 hT (gTBV t_759 t_678 t_679 t_144 t_680) rfl rfl rfl (by decide +kernel) ⟨Nat.le_of_ble_eq_true rfl, Nat.le_of_ble_eq_true rfl⟩) ⟨fun a U g mk q => by obtain ⟨q0, q1, qP, qK, qD⟩ := q; exact ⟨q0, q1, qP, va_K.moved (u := U) (U := U.calling g mk a) (Vm.Alike.refl U.vm) qK, qD⟩, va_recv hK hPc (ci := 8) (q0 := 0) rfl rfl, fun U hU hW => ⟨rfl, by rw [hU], by rw [hU]; exact hPc, va_K.moved hW.alike hK, hDc.weaken (fun _ _ _ _ => trivial)⟩⟩ rfl rfl hl.1 rfl (lv_room (Nat.le_of_ble_eq_true rfl)) dX8_need_46 ⟨Nat.le_of_ble_eq_true rfl, Nat.le_of_ble_eq_true rfl⟩) hS (fun q _ h => hFc q h) hFc (fun  u t H1 locs ht hvm w14 hB hz1 hk1 hS => ?_)
        obtain ⟨k15, k16, k17⟩ := u
        obtain ⟨hP1, hD1⟩ := hB
        rw [ht] at hP1
        obtain ⟨hP, hD⟩ := va_join (wr := []) (w1 := [(h0, .inr (8, [.ref a1, .ref a2, .ref a3, .ref a4, .int (nI cn), .int ln, .int (nI k15), .int k16, .int k17])), (a1, .inl (cy 1, 1601, .inl kf)), (a2, .inl (cy 1, 1601, .inl pf)), (a3, .inl (cy 2, 1601, .inr (.inl wf)))]) hP hD [0, 1, 2, 3] [] rfl rfl (by decide) (by decide) hk1 hFc hP1 hD1
        generalize H1 = H at hP hS ⊢
        have hP : va_P D vwCl [(h0, .inr (8, [.ref a1, .ref a2, .ref a3, .ref a4, .int (nI cn), .int ln, .int (nI k15), .int k16, .int k17])), (a1, .inl (cy 1, 1601, .inl kf)), (a2, .inl (cy 1, 1601, .inl pf)), (a3, .inl (cy 2, 1601, .inr (.inl wf)))] H := hP
        have hD : va_D A [(h0, .inr (8, [.ref a1, .ref a2, .ref a3, .ref a4, .int (nI cn), .int ln, .int (nI k15), .int k16, .int k17])), (a1, .inl (cy 1, 1601, .inl kf)), (a2, .inl (cy 1, 1601, .inl pf)), (a3, .inl (cy 2, 1601, .inr (.inl wf)))] := hD
        have hP9 := hP.sub (ws' := [(h0, .inr (8, [.ref a1, .ref a2, .ref a3, .ref a4, .int (nI cn), .int ln, .int (nI k15), .int k16, .int k17])), (a1, .inl (cy 1, 1601, .inl kf)), (a2, .inl (cy 1, 1601, .inl pf)), (a3, .inl (cy 2, 1601, .inr (.inl wf)))]) [0, 1, 2, 3] rfl
        have hD9 := hD.sub (ws' := [(h0, .inr (8, [.ref a1, .ref a2, .ref a3, .ref a4, .int (nI cn), .int ln, .int (nI k15), .int k16, .int k17])), (a1, .inl (cy 1, 1601, .inl kf)), (a2, .inl (cy 1, 1601, .inl pf)), (a3, .inl (cy 2, 1601, .inr (.inl wf)))]) [0, 1, 2, 3] (by decide) rfl
        refine W.widen (k := 0) (n := 0) (Nat.le_of_ble_eq_true rfl) (Nat.le_of_ble_eq_true rfl) ?_
        exact W.vret hx hb hr (fun t ht hW => ⟨⟨(k15, k16, k17), rfl, w14, by rw [ht]; exact hP9, hD9⟩, hS.F ht⟩) hS.2.2 dX8_need_49
      · have hlt : at0 < cn := by
          rcases Nat.lt_or_ge at0 cn with q | q
          · exact q
          · exact absurd (nI_le q (by omega)) c13
        refine lv_aload_n hx hb dX8_need_31 rfl (lv_at hl 0 rfl) ?_
        refine lv_dup hx hb dX8_need_32 rfl ?_
        refine va_get (D := D) (ci := 8) (v := .int (nI at0)) (C := RX8) (T := TX8) (N := 9) hx hb hT i_TX8 hown hK hP 0 rfl rfl 6 (by decide) (hT _ t_322) (fun _ h9 => h9) rfl dX8_need_33 ?_
        refine lv_iconst (v := 1) hx hb dX8_need_36 (by decide) ?_
        refine lv_iadd hx hb dX8_need_37 ?_
        refine lv_topi (fun z18 e19 => ?_)
        obtain rfl : z18 = nI (at0 + 1) := e19.trans (nI_1 at0)
        refine va_put (D := D) (ci := 8) (v := .int (nI (at0 + 1))) (ty := .int) (C := RX8) (T := TX8) (N := 9) hx hb hT i_TX8 tyX8 tyX8_ok nmX8 hown hK hP hD hS 0 rfl rfl 6 (by decide) (hT _ t_322) (fun _ h9 => h9) rfl (by decide +kernel) rfl rfl (Nat.le_of_ble_eq_true rfl) dX8_need_38 (fun H locs hP hD hS => ?_)
        have hP : va_P D vwCl [(h0, .inr (8, [.ref a1, .ref a2, .ref a3, .ref a4, .int (nI cn), .int ln, .int (nI (at0 + 1)), .int fa, .int fp])), (a1, .inl (cy 1, 1601, .inl kf)), (a2, .inl (cy 1, 1601, .inl pf)), (a3, .inl (cy 2, 1601, .inr (.inl wf)))] H := hP
        have hD : va_D A [(h0, .inr (8, [.ref a1, .ref a2, .ref a3, .ref a4, .int (nI cn), .int ln, .int (nI (at0 + 1)), .int fa, .int fp])), (a1, .inl (cy 1, 1601, .inl kf)), (a2, .inl (cy 1, 1601, .inl pf)), (a3, .inl (cy 2, 1601, .inr (.inl wf)))] := hD
        refine lv_goto (tgt := 49) hx hb dX8_need_41 (by decide) ?_
        have hP9 := hP.sub (ws' := [(h0, .inr (8, [.ref a1, .ref a2, .ref a3, .ref a4, .int (nI cn), .int ln, .int (nI (at0 + 1)), .int fa, .int fp])), (a1, .inl (cy 1, 1601, .inl kf)), (a2, .inl (cy 1, 1601, .inl pf)), (a3, .inl (cy 2, 1601, .inr (.inl wf)))]) [0, 1, 2, 3] rfl
        have hD9 := hD.sub (ws' := [(h0, .inr (8, [.ref a1, .ref a2, .ref a3, .ref a4, .int (nI cn), .int ln, .int (nI (at0 + 1)), .int fa, .int fp])), (a1, .inl (cy 1, 1601, .inl kf)), (a2, .inl (cy 1, 1601, .inl pf)), (a3, .inl (cy 2, 1601, .inr (.inl wf)))]) [0, 1, 2, 3] (by decide) rfl
        refine W.widen (k := 0) (n := 0) (Nat.le_of_ble_eq_true rfl) (Nat.le_of_ble_eq_true rfl) ?_
        exact W.vret hx hb hr (fun t ht hW => ⟨⟨((at0 + 1), fa, fp), rfl, (show at0 + 1 ≤ cn from hlt), by rw [ht]; exact hP9, hD9⟩, hS.F ht⟩) hS.2.2 dX8_need_49
