theorem dX8_fail_0 : decode cX8_fail 0 = .ok (.aload_n 0, 1) := by decide +kernel
theorem dX8_fail_1 : decode cX8_fail 1 = .ok (.getfield 46, 3) := by decide +kernel
theorem dX8_fail_4 : decode cX8_fail 4 = .ok (.ifCond .ne 38, 3) := by decide +kernel
theorem dX8_fail_7 : decode cX8_fail 7 = .ok (.aload_n 0, 1) := by decide +kernel
theorem dX8_fail_8 : decode cX8_fail 8 = .ok (.aload_n 0, 1) := by decide +kernel
theorem dX8_fail_9 : decode cX8_fail 9 = .ok (.getfield 9, 3) := by decide +kernel
theorem dX8_fail_12 : decode cX8_fail 12 = .ok (.aload_n 0, 1) := by decide +kernel
theorem dX8_fail_13 : decode cX8_fail 13 = .ok (.getfield 43, 3) := by decide +kernel
theorem dX8_fail_16 : decode cX8_fail 16 = .ok (.iaload, 1) := by decide +kernel
theorem dX8_fail_17 : decode cX8_fail 17 = .ok (.iconst 1, 1) := by decide +kernel
theorem dX8_fail_18 : decode cX8_fail 18 = .ok (.if_icmp .ne 7, 3) := by decide +kernel
theorem dX8_fail_21 : decode cX8_fail 21 = .ok (.iconst 1, 1) := by decide +kernel
theorem dX8_fail_22 : decode cX8_fail 22 = .ok (.goto 4, 3) := by decide +kernel
theorem dX8_fail_25 : decode cX8_fail 25 = .ok (.iload_n 1, 1) := by decide +kernel
theorem dX8_fail_26 : decode cX8_fail 26 = .ok (.putfield 46, 3) := by decide +kernel
theorem dX8_fail_29 : decode cX8_fail 29 = .ok (.aload_n 0, 1) := by decide +kernel
theorem dX8_fail_30 : decode cX8_fail 30 = .ok (.aload_n 0, 1) := by decide +kernel
theorem dX8_fail_31 : decode cX8_fail 31 = .ok (.getfield 15, 3) := by decide +kernel
theorem dX8_fail_34 : decode cX8_fail 34 = .ok (.aload_n 0, 1) := by decide +kernel
theorem dX8_fail_35 : decode cX8_fail 35 = .ok (.getfield 43, 3) := by decide +kernel
theorem dX8_fail_38 : decode cX8_fail 38 = .ok (.iaload, 1) := by decide +kernel
theorem dX8_fail_39 : decode cX8_fail 39 = .ok (.putfield 49, 3) := by decide +kernel
theorem dX8_fail_42 : decode cX8_fail 42 = .ok (.return_, 1) := by decide +kernel
theorem dX8_kind_0 : decode cX8_kind 0 = .ok (.aload_n 0, 1) := by decide +kernel
theorem dX8_kind_1 : decode cX8_kind 1 = .ok (.getfield 46, 3) := by decide +kernel
theorem dX8_kind_4 : decode cX8_kind 4 = .ok (.ifCond .ne 15, 3) := by decide +kernel
theorem dX8_kind_7 : decode cX8_kind 7 = .ok (.aload_n 0, 1) := by decide +kernel
theorem dX8_kind_8 : decode cX8_kind 8 = .ok (.getfield 9, 3) := by decide +kernel
theorem dX8_kind_11 : decode cX8_kind 11 = .ok (.aload_n 0, 1) := by decide +kernel
theorem dX8_kind_12 : decode cX8_kind 12 = .ok (.getfield 43, 3) := by decide +kernel
theorem dX8_kind_15 : decode cX8_kind 15 = .ok (.iaload, 1) := by decide +kernel
theorem dX8_kind_16 : decode cX8_kind 16 = .ok (.goto 4, 3) := by decide +kernel
theorem dX8_kind_19 : decode cX8_kind 19 = .ok (.iconst 0, 1) := by decide +kernel
theorem dX8_kind_20 : decode cX8_kind 20 = .ok (.ireturn, 1) := by decide +kernel
theorem dX8_spot_0 : decode cX8_spot 0 = .ok (.aload_n 0, 1) := by decide +kernel
theorem dX8_spot_1 : decode cX8_spot 1 = .ok (.getfield 15, 3) := by decide +kernel
theorem dX8_spot_4 : decode cX8_spot 4 = .ok (.aload_n 0, 1) := by decide +kernel
theorem dX8_spot_5 : decode cX8_spot 5 = .ok (.getfield 43, 3) := by decide +kernel
theorem dX8_spot_8 : decode cX8_spot 8 = .ok (.iaload, 1) := by decide +kernel
theorem dX8_spot_9 : decode cX8_spot 9 = .ok (.ireturn, 1) := by decide +kernel
set_option maxHeartbeats 4000000 in
set_option maxRecDepth 100000 in
theorem g_spot (l : Launch) (D : va_G) (cy : Nat → ClassId) (sz : Nat) (h0 : Nat) (a1 : Nat) (a2 : Nat) (a3 : Nat) (a4 : Nat) (kf : Nat → Int32) (pf : Nat → Int32) (wf : Nat → Int64) (cn : Nat) (ln : Int32) (at0 : Nat) (fa : Int32) (fp : Int32) (hc : cn ≤ 1600) (ha : at0 ≤ cn) : Met l yX8_spot (.code yX8_spot cX8_spot 1 (some .int) :: TB) ({ frames := 0, cells := 0, slots := 0, locals := 0 }) (va_Pc [.ref h0] (fun U => U.heap.size = sz ∧ va_P D vwCl [(h0, .inr (8, [.ref a1, .ref a2, .ref a3, .ref a4, .int (nI cn), .int ln, .int (nI at0), .int fa, .int fp])), (a1, .inl (cy 1, 1601, .inl kf)), (a2, .inl (cy 1, 1601, .inl pf)), (a3, .inl (cy 2, 1601, .inr (.inl wf)))] U.heap ∧ va_K D vwCl (TY cy) U ∧ va_D (fun _ => True) [(h0, .inr (8, [.ref a1, .ref a2, .ref a3, .ref a4, .int (nI cn), .int ln, .int (nI at0), .int fa, .int fp])), (a1, .inl (cy 1, 1601, .inl kf)), (a2, .inl (cy 1, 1601, .inl pf)), (a3, .inl (cy 2, 1601, .inr (.inl wf)))])) (va_Qi (fun (r : Int32) (u : Nat × Int32 × Int32) => u.1 ≤ cn) (fun (u : Nat × Int32 × Int32) t => va_P D vwCl [(h0, .inr (8, [.ref a1, .ref a2, .ref a3, .ref a4, .int (nI cn), .int ln, .int (nI u.1), .int u.2.1, .int u.2.2])), (a1, .inl (cy 1, 1601, .inl kf)), (a2, .inl (cy 1, 1601, .inl pf)), (a3, .inl (cy 2, 1601, .inr (.inl wf)))] t.heap ∧ va_D (va_A [(h0, .inr (8, [.ref a1, .ref a2, .ref a3, .ref a4, .int (nI cn), .int ln, .int (nI at0), .int fa, .int fp])), (a1, .inl (cy 1, 1601, .inl kf)), (a2, .inl (cy 1, 1601, .inl pf)), (a3, .inl (cy 2, 1601, .inr (.inl wf)))] sz) [(h0, .inr (8, [.ref a1, .ref a2, .ref a3, .ref a4, .int (nI cn), .int ln, .int (nI u.1), .int u.2.1, .int u.2.2])), (a1, .inl (cy 1, 1601, .inl kf)), (a2, .inl (cy 1, 1601, .inl pf)), (a3, .inl (cy 2, 1601, .inr (.inl wf)))]) (va_A [(h0, .inr (8, [.ref a1, .ref a2, .ref a3, .ref a4, .int (nI cn), .int ln, .int (nI at0), .int fa, .int fp])), (a1, .inl (cy 1, 1601, .inl kf)), (a2, .inl (cy 1, 1601, .inl pf)), (a3, .inl (cy 2, 1601, .inr (.inl wf)))] sz)) 0 0 (va_A [(h0, .inr (8, [.ref a1, .ref a2, .ref a3, .ref a4, .int (nI cn), .int ln, .int (nI at0), .int fa, .int fp])), (a1, .inl (cy 1, 1601, .inl kf)), (a2, .inl (cy 1, 1601, .inl pf)), (a3, .inl (cy 2, 1601, .inr (.inl wf)))] sz) := by
  refine Met.ofW (cc := cX8_spot) (maxL := 1) (ret := (some .int)) (by decide) rfl ?_
  intro p e s m args below meth c s₁ B hml hv
  obtain ⟨rfl, hsz, hP, hK, hD0⟩ := hv
  have hx := B.exec
  have hb := B.bytes
  have hr := B.returns
  have hts := atoms_spec (ws := .code yX8_spot cX8_spot 1 (some .int) :: TB) B.pre
  have hT : ∀ w ∈ TB, w.before _ s = true := fun w h => hts w (List.mem_cons_of_mem _ h)
  have hown : s.vm.findClass "MakerStarts$Tokens" = some m.cls := findClass_of_methodNamed B.named
  have hlocks := B.notSynchronized
  subst hsz
  have hD := hD0.self (sz := s.heap.size)
  generalize hAe : va_A [(h0, .inr (8, [.ref a1, .ref a2, .ref a3, .ref a4, .int (nI cn), .int ln, .int (nI at0), .int fa, .int fp])), (a1, .inl (cy 1, 1601, .inl kf)), (a2, .inl (cy 1, 1601, .inl pf)), (a3, .inl (cy 2, 1601, .inr (.inl wf)))] s.heap.size = A at hD  ⊢
  have hA : ∀ q : Nat, s.heap.size ≤ q → A q := fun q h => by rw [← hAe]; exact Or.inr h
  have hS : va_S A s.heap s.heap [] := va_S.rf
  have hP : va_P D vwCl [(h0, .inr (8, [.ref a1, .ref a2, .ref a3, .ref a4, .int (nI cn), .int ln, .int (nI at0), .int fa, .int fp])), (a1, .inl (cy 1, 1601, .inl kf)), (a2, .inl (cy 1, 1601, .inl pf)), (a3, .inl (cy 2, 1601, .inr (.inl wf)))] s.heap := hP
  have hl := lv_entry ([.ref h0]) (n := 1) (Nat.le_of_ble_eq_true rfl)
  rw [lg_entry_eq]
  generalize (lg_sl ([.ref h0]) ++ List.replicate (1 - (lg_sl ([.ref h0])).length) Slot.unset).toArray = ls at hl ⊢
  have hl : lv_has ls 1 [(0, .ref h0)] := hl
  refine lv_aload_n hx hb dX8_spot_0 rfl (lv_at hl 0 rfl) ?_
  refine va_get (D := D) (ci := 8) (v := .ref a2) (C := RX8) (T := TX8) (N := 9) hx hb hT i_TX8 hown hK hP 0 rfl rfl 1 (by decide) (hT _ t_317) (fun _ h9 => h9) rfl dX8_spot_1 ?_
  refine lv_aload_n hx hb dX8_spot_4 rfl (lv_at hl 0 rfl) ?_
  refine va_get (D := D) (ci := 8) (v := .int (nI at0)) (C := RX8) (T := TX8) (N := 9) hx hb hT i_TX8 hown hK hP 0 rfl rfl 6 (by decide) (hT _ t_322) (fun _ h9 => h9) rfl dX8_spot_5 ?_
  refine va_iald hx hb hK hP 2 1 rfl rfl (vp_in_nI (by omega) (by decide)) dX8_spot_8 ?_
  refine lv_topi (fun z1 e2 => ?_)
  have hP9 := hP.sub (ws' := [(h0, .inr (8, [.ref a1, .ref a2, .ref a3, .ref a4, .int (nI cn), .int ln, .int (nI at0), .int fa, .int fp])), (a1, .inl (cy 1, 1601, .inl kf)), (a2, .inl (cy 1, 1601, .inl pf)), (a3, .inl (cy 2, 1601, .inr (.inl wf)))]) [0, 1, 2, 3] rfl
  have hD9 := hD.sub (ws' := [(h0, .inr (8, [.ref a1, .ref a2, .ref a3, .ref a4, .int (nI cn), .int ln, .int (nI at0), .int fa, .int fp])), (a1, .inl (cy 1, 1601, .inl kf)), (a2, .inl (cy 1, 1601, .inl pf)), (a3, .inl (cy 2, 1601, .inr (.inl wf)))]) [0, 1, 2, 3] (by decide) rfl
  refine W.widen (k := 0) (n := 0) (Nat.le_of_ble_eq_true rfl) (Nat.le_of_ble_eq_true rfl) ?_
  exact W.iret (v := z1) hx hb hr (fun t ht hW => ⟨⟨z1, (at0, fa, fp), rfl, ha, by rw [ht]; exact hP9, hD9⟩, hS.F ht⟩) hS.2.2 dX8_spot_9

set_option maxHeartbeats 4000000 in
set_option maxRecDepth 100000 in
theorem g_kind (l : Launch) (D : va_G) (cy : Nat → ClassId) (sz : Nat) (h0 : Nat) (a1 : Nat) (a2 : Nat) (a3 : Nat) (a4 : Nat) (kf : Nat → Int32) (pf : Nat → Int32) (wf : Nat → Int64) (cn : Nat) (ln : Int32) (at0 : Nat) (fa : Int32) (fp : Int32) (hc : cn ≤ 1600) (ha : at0 ≤ cn) : Met l yX8_kind (.code yX8_kind cX8_kind 1 (some .int) :: TB) ({ frames := 0, cells := 0, slots := 0, locals := 0 }) (va_Pc [.ref h0] (fun U => U.heap.size = sz ∧ va_P D vwCl [(h0, .inr (8, [.ref a1, .ref a2, .ref a3, .ref a4, .int (nI cn), .int ln, .int (nI at0), .int fa, .int fp])), (a1, .inl (cy 1, 1601, .inl kf)), (a2, .inl (cy 1, 1601, .inl pf)), (a3, .inl (cy 2, 1601, .inr (.inl wf)))] U.heap ∧ va_K D vwCl (TY cy) U ∧ va_D (fun _ => True) [(h0, .inr (8, [.ref a1, .ref a2, .ref a3, .ref a4, .int (nI cn), .int ln, .int (nI at0), .int fa, .int fp])), (a1, .inl (cy 1, 1601, .inl kf)), (a2, .inl (cy 1, 1601, .inl pf)), (a3, .inl (cy 2, 1601, .inr (.inl wf)))])) (va_Qi (fun (r : Int32) (u : Nat × Int32 × Int32) => u.1 ≤ cn) (fun (u : Nat × Int32 × Int32) t => va_P D vwCl [(h0, .inr (8, [.ref a1, .ref a2, .ref a3, .ref a4, .int (nI cn), .int ln, .int (nI u.1), .int u.2.1, .int u.2.2])), (a1, .inl (cy 1, 1601, .inl kf)), (a2, .inl (cy 1, 1601, .inl pf)), (a3, .inl (cy 2, 1601, .inr (.inl wf)))] t.heap ∧ va_D (va_A [(h0, .inr (8, [.ref a1, .ref a2, .ref a3, .ref a4, .int (nI cn), .int ln, .int (nI at0), .int fa, .int fp])), (a1, .inl (cy 1, 1601, .inl kf)), (a2, .inl (cy 1, 1601, .inl pf)), (a3, .inl (cy 2, 1601, .inr (.inl wf)))] sz) [(h0, .inr (8, [.ref a1, .ref a2, .ref a3, .ref a4, .int (nI cn), .int ln, .int (nI u.1), .int u.2.1, .int u.2.2])), (a1, .inl (cy 1, 1601, .inl kf)), (a2, .inl (cy 1, 1601, .inl pf)), (a3, .inl (cy 2, 1601, .inr (.inl wf)))]) (va_A [(h0, .inr (8, [.ref a1, .ref a2, .ref a3, .ref a4, .int (nI cn), .int ln, .int (nI at0), .int fa, .int fp])), (a1, .inl (cy 1, 1601, .inl kf)), (a2, .inl (cy 1, 1601, .inl pf)), (a3, .inl (cy 2, 1601, .inr (.inl wf)))] sz)) 0 0 (va_A [(h0, .inr (8, [.ref a1, .ref a2, .ref a3, .ref a4, .int (nI cn), .int ln, .int (nI at0), .int fa, .int fp])), (a1, .inl (cy 1, 1601, .inl kf)), (a2, .inl (cy 1, 1601, .inl pf)), (a3, .inl (cy 2, 1601, .inr (.inl wf)))] sz) := by
  refine Met.ofW (cc := cX8_kind) (maxL := 1) (ret := (some .int)) (by decide) rfl ?_
  intro p e s m args below meth c s₁ B hml hv
  obtain ⟨rfl, hsz, hP, hK, hD0⟩ := hv
  have hx := B.exec
  have hb := B.bytes
  have hr := B.returns
  have hts := atoms_spec (ws := .code yX8_kind cX8_kind 1 (some .int) :: TB) B.pre
  have hT : ∀ w ∈ TB, w.before _ s = true := fun w h => hts w (List.mem_cons_of_mem _ h)
  have hown : s.vm.findClass "MakerStarts$Tokens" = some m.cls := findClass_of_methodNamed B.named
  have hlocks := B.notSynchronized
  subst hsz
  have hD := hD0.self (sz := s.heap.size)
  generalize hAe : va_A [(h0, .inr (8, [.ref a1, .ref a2, .ref a3, .ref a4, .int (nI cn), .int ln, .int (nI at0), .int fa, .int fp])), (a1, .inl (cy 1, 1601, .inl kf)), (a2, .inl (cy 1, 1601, .inl pf)), (a3, .inl (cy 2, 1601, .inr (.inl wf)))] s.heap.size = A at hD  ⊢
  have hA : ∀ q : Nat, s.heap.size ≤ q → A q := fun q h => by rw [← hAe]; exact Or.inr h
  have hS : va_S A s.heap s.heap [] := va_S.rf
  have hP : va_P D vwCl [(h0, .inr (8, [.ref a1, .ref a2, .ref a3, .ref a4, .int (nI cn), .int ln, .int (nI at0), .int fa, .int fp])), (a1, .inl (cy 1, 1601, .inl kf)), (a2, .inl (cy 1, 1601, .inl pf)), (a3, .inl (cy 2, 1601, .inr (.inl wf)))] s.heap := hP
  have hl := lv_entry ([.ref h0]) (n := 1) (Nat.le_of_ble_eq_true rfl)
  rw [lg_entry_eq]
  generalize (lg_sl ([.ref h0]) ++ List.replicate (1 - (lg_sl ([.ref h0])).length) Slot.unset).toArray = ls at hl ⊢
  have hl : lv_has ls 1 [(0, .ref h0)] := hl
  refine lv_aload_n hx hb dX8_kind_0 rfl (lv_at hl 0 rfl) ?_
  refine va_get (D := D) (ci := 8) (v := .int fa) (C := RX8) (T := TX8) (N := 9) hx hb hT i_TX8 hown hK hP 0 rfl rfl 7 (by decide) (hT _ t_323) (fun _ h9 => h9) rfl dX8_kind_1 ?_
  refine lv_if_ne (tgt := 19) hx hb dX8_kind_4 (by decide) (fun c1 => ?_) (fun c1 => ?_)
  · refine lv_iconst (v := 0) hx hb dX8_kind_19 (by decide) ?_
    have hP9 := hP.sub (ws' := [(h0, .inr (8, [.ref a1, .ref a2, .ref a3, .ref a4, .int (nI cn), .int ln, .int (nI at0), .int fa, .int fp])), (a1, .inl (cy 1, 1601, .inl kf)), (a2, .inl (cy 1, 1601, .inl pf)), (a3, .inl (cy 2, 1601, .inr (.inl wf)))]) [0, 1, 2, 3] rfl
    have hD9 := hD.sub (ws' := [(h0, .inr (8, [.ref a1, .ref a2, .ref a3, .ref a4, .int (nI cn), .int ln, .int (nI at0), .int fa, .int fp])), (a1, .inl (cy 1, 1601, .inl kf)), (a2, .inl (cy 1, 1601, .inl pf)), (a3, .inl (cy 2, 1601, .inr (.inl wf)))]) [0, 1, 2, 3] (by decide) rfl
    refine W.widen (k := 0) (n := 0) (Nat.le_of_ble_eq_true rfl) (Nat.le_of_ble_eq_true rfl) ?_
    exact W.iret (v := 0) hx hb hr (fun t ht hW => ⟨⟨0, (at0, fa, fp), rfl, ha, by rw [ht]; exact hP9, hD9⟩, hS.F ht⟩) hS.2.2 dX8_kind_20
  · refine lv_aload_n hx hb dX8_kind_7 rfl (lv_at hl 0 rfl) ?_
    refine va_get (D := D) (ci := 8) (v := .ref a1) (C := RX8) (T := TX8) (N := 9) hx hb hT i_TX8 hown hK hP 0 rfl rfl 0 (by decide) (hT _ t_316) (fun _ h9 => h9) rfl dX8_kind_8 ?_
    refine lv_aload_n hx hb dX8_kind_11 rfl (lv_at hl 0 rfl) ?_
    refine va_get (D := D) (ci := 8) (v := .int (nI at0)) (C := RX8) (T := TX8) (N := 9) hx hb hT i_TX8 hown hK hP 0 rfl rfl 6 (by decide) (hT _ t_322) (fun _ h9 => h9) rfl dX8_kind_12 ?_
    refine va_iald hx hb hK hP 1 1 rfl rfl (vp_in_nI (by omega) (by decide)) dX8_kind_15 ?_
    refine lv_topi (fun z2 e3 => ?_)
    refine lv_goto (tgt := 20) hx hb dX8_kind_16 (by decide) ?_
    have hP9 := hP.sub (ws' := [(h0, .inr (8, [.ref a1, .ref a2, .ref a3, .ref a4, .int (nI cn), .int ln, .int (nI at0), .int fa, .int fp])), (a1, .inl (cy 1, 1601, .inl kf)), (a2, .inl (cy 1, 1601, .inl pf)), (a3, .inl (cy 2, 1601, .inr (.inl wf)))]) [0, 1, 2, 3] rfl
    have hD9 := hD.sub (ws' := [(h0, .inr (8, [.ref a1, .ref a2, .ref a3, .ref a4, .int (nI cn), .int ln, .int (nI at0), .int fa, .int fp])), (a1, .inl (cy 1, 1601, .inl kf)), (a2, .inl (cy 1, 1601, .inl pf)), (a3, .inl (cy 2, 1601, .inr (.inl wf)))]) [0, 1, 2, 3] (by decide) rfl
    refine W.widen (k := 0) (n := 0) (Nat.le_of_ble_eq_true rfl) (Nat.le_of_ble_eq_true rfl) ?_
    exact W.iret (v := z2) hx hb hr (fun t ht hW => ⟨⟨z2, (at0, fa, fp), rfl, ha, by rw [ht]; exact hP9, hD9⟩, hS.F ht⟩) hS.2.2 dX8_kind_20

set_option maxHeartbeats 4000000 in
set_option maxRecDepth 100000 in
theorem g_is (l : Launch) (D : va_G) (cy : Nat → ClassId) (sz : Nat) (h0 : Nat) (a1 : Nat) (a2 : Nat) (a3 : Nat) (a4 : Nat) (kf : Nat → Int32) (pf : Nat → Int32) (wf : Nat → Int64) (cn : Nat) (ln : Int32) (at0 : Nat) (fa : Int32) (fp : Int32) (p0 : Int32) (hc : cn ≤ 1600) (ha : at0 ≤ cn) : Met l yX8_is (.code yX8_is cX8_is 2 (some .boolean) :: TB) ({ frames := 0, cells := 0, slots := 0, locals := 0 }) (va_Pc [.ref h0, .int p0] (fun U => U.heap.size = sz ∧ va_P D vwCl [(h0, .inr (8, [.ref a1, .ref a2, .ref a3, .ref a4, .int (nI cn), .int ln, .int (nI at0), .int fa, .int fp])), (a1, .inl (cy 1, 1601, .inl kf)), (a2, .inl (cy 1, 1601, .inl pf)), (a3, .inl (cy 2, 1601, .inr (.inl wf)))] U.heap ∧ va_K D vwCl (TY cy) U ∧ va_D (fun _ => True) [(h0, .inr (8, [.ref a1, .ref a2, .ref a3, .ref a4, .int (nI cn), .int ln, .int (nI at0), .int fa, .int fp])), (a1, .inl (cy 1, 1601, .inl kf)), (a2, .inl (cy 1, 1601, .inl pf)), (a3, .inl (cy 2, 1601, .inr (.inl wf)))])) (va_Qi (fun (r : Int32) (u : Nat × Int32 × Int32) => u.1 ≤ cn) (fun (u : Nat × Int32 × Int32) t => va_P D vwCl [(h0, .inr (8, [.ref a1, .ref a2, .ref a3, .ref a4, .int (nI cn), .int ln, .int (nI u.1), .int u.2.1, .int u.2.2])), (a1, .inl (cy 1, 1601, .inl kf)), (a2, .inl (cy 1, 1601, .inl pf)), (a3, .inl (cy 2, 1601, .inr (.inl wf)))] t.heap ∧ va_D (va_A [(h0, .inr (8, [.ref a1, .ref a2, .ref a3, .ref a4, .int (nI cn), .int ln, .int (nI at0), .int fa, .int fp])), (a1, .inl (cy 1, 1601, .inl kf)), (a2, .inl (cy 1, 1601, .inl pf)), (a3, .inl (cy 2, 1601, .inr (.inl wf)))] sz) [(h0, .inr (8, [.ref a1, .ref a2, .ref a3, .ref a4, .int (nI cn), .int ln, .int (nI u.1), .int u.2.1, .int u.2.2])), (a1, .inl (cy 1, 1601, .inl kf)), (a2, .inl (cy 1, 1601, .inl pf)), (a3, .inl (cy 2, 1601, .inr (.inl wf)))]) (va_A [(h0, .inr (8, [.ref a1, .ref a2, .ref a3, .ref a4, .int (nI cn), .int ln, .int (nI at0), .int fa, .int fp])), (a1, .inl (cy 1, 1601, .inl kf)), (a2, .inl (cy 1, 1601, .inl pf)), (a3, .inl (cy 2, 1601, .inr (.inl wf)))] sz)) 0 0 (va_A [(h0, .inr (8, [.ref a1, .ref a2, .ref a3, .ref a4, .int (nI cn), .int ln, .int (nI at0), .int fa, .int fp])), (a1, .inl (cy 1, 1601, .inl kf)), (a2, .inl (cy 1, 1601, .inl pf)), (a3, .inl (cy 2, 1601, .inr (.inl wf)))] sz) := by
  refine Met.ofW (cc := cX8_is) (maxL := 2) (ret := (some .boolean)) (by decide) rfl ?_
  intro p e s m args below meth c s₁ B hml hv
  obtain ⟨rfl, hsz, hP, hK, hD0⟩ := hv
  have hx := B.exec
  have hb := B.bytes
  have hr := B.returns
  have hts := atoms_spec (ws := .code yX8_is cX8_is 2 (some .boolean) :: TB) B.pre
  have hT : ∀ w ∈ TB, w.before _ s = true := fun w h => hts w (List.mem_cons_of_mem _ h)
  have hown : s.vm.findClass "MakerStarts$Tokens" = some m.cls := findClass_of_methodNamed B.named
  have hlocks := B.notSynchronized
  subst hsz
  have hD := hD0.self (sz := s.heap.size)
  generalize hAe : va_A [(h0, .inr (8, [.ref a1, .ref a2, .ref a3, .ref a4, .int (nI cn), .int ln, .int (nI at0), .int fa, .int fp])), (a1, .inl (cy 1, 1601, .inl kf)), (a2, .inl (cy 1, 1601, .inl pf)), (a3, .inl (cy 2, 1601, .inr (.inl wf)))] s.heap.size = A at hD  ⊢
  have hA : ∀ q : Nat, s.heap.size ≤ q → A q := fun q h => by rw [← hAe]; exact Or.inr h
  have hS : va_S A s.heap s.heap [] := va_S.rf
  have hP : va_P D vwCl [(h0, .inr (8, [.ref a1, .ref a2, .ref a3, .ref a4, .int (nI cn), .int ln, .int (nI at0), .int fa, .int fp])), (a1, .inl (cy 1, 1601, .inl kf)), (a2, .inl (cy 1, 1601, .inl pf)), (a3, .inl (cy 2, 1601, .inr (.inl wf)))] s.heap := hP
  have hl := lv_entry ([.ref h0, .int p0]) (n := 2) (Nat.le_of_ble_eq_true rfl)
  rw [lg_entry_eq]
  generalize (lg_sl ([.ref h0, .int p0]) ++ List.replicate (2 - (lg_sl ([.ref h0, .int p0])).length) Slot.unset).toArray = ls at hl ⊢
  have hl : lv_has ls 2 [(0, .ref h0), (1, .int p0)] := hl
  refine lv_aload_n hx hb dX8_is_0 rfl (lv_at hl 0 rfl) ?_
  refine va_get (D := D) (ci := 8) (v := .int fa) (C := RX8) (T := TX8) (N := 9) hx hb hT i_TX8 hown hK hP 0 rfl rfl 7 (by decide) (hT _ t_323) (fun _ h9 => h9) rfl dX8_is_1 ?_
  refine lv_if_ne (tgt := 24) hx hb dX8_is_4 (by decide) (fun c1 => ?_) (fun c1 => ?_)
  · refine lv_iconst (v := 0) hx hb dX8_is_24 (by decide) ?_
    have hP9 := hP.sub (ws' := [(h0, .inr (8, [.ref a1, .ref a2, .ref a3, .ref a4, .int (nI cn), .int ln, .int (nI at0), .int fa, .int fp])), (a1, .inl (cy 1, 1601, .inl kf)), (a2, .inl (cy 1, 1601, .inl pf)), (a3, .inl (cy 2, 1601, .inr (.inl wf)))]) [0, 1, 2, 3] rfl
    have hD9 := hD.sub (ws' := [(h0, .inr (8, [.ref a1, .ref a2, .ref a3, .ref a4, .int (nI cn), .int ln, .int (nI at0), .int fa, .int fp])), (a1, .inl (cy 1, 1601, .inl kf)), (a2, .inl (cy 1, 1601, .inl pf)), (a3, .inl (cy 2, 1601, .inr (.inl wf)))]) [0, 1, 2, 3] (by decide) rfl
    refine W.widen (k := 0) (n := 0) (Nat.le_of_ble_eq_true rfl) (Nat.le_of_ble_eq_true rfl) ?_
    exact W.zret (v := 0) hx hb hr rfl (fun t ht hW => ⟨⟨0, (at0, fa, fp), rfl, ha, by rw [ht]; exact hP9, hD9⟩, hS.F ht⟩) hS.2.2 dX8_is_25
  · refine lv_aload_n hx hb dX8_is_7 rfl (lv_at hl 0 rfl) ?_
    refine va_get (D := D) (ci := 8) (v := .ref a1) (C := RX8) (T := TX8) (N := 9) hx hb hT i_TX8 hown hK hP 0 rfl rfl 0 (by decide) (hT _ t_316) (fun _ h9 => h9) rfl dX8_is_8 ?_
    refine lv_aload_n hx hb dX8_is_11 rfl (lv_at hl 0 rfl) ?_
    refine va_get (D := D) (ci := 8) (v := .int (nI at0)) (C := RX8) (T := TX8) (N := 9) hx hb hT i_TX8 hown hK hP 0 rfl rfl 6 (by decide) (hT _ t_322) (fun _ h9 => h9) rfl dX8_is_12 ?_
    refine va_iald hx hb hK hP 1 1 rfl rfl (vp_in_nI (by omega) (by decide)) dX8_is_15 ?_
    refine lv_topi (fun z2 e3 => ?_)
    refine lv_iload_n hx hb dX8_is_16 rfl (lv_at hl 1 rfl) ?_
    refine lv_icmp_ne (tgt := 24) hx hb dX8_is_17 (by decide) (fun c4 => ?_) (fun c4 => ?_)
    · refine lv_iconst (v := 0) hx hb dX8_is_24 (by decide) ?_
      have hP9 := hP.sub (ws' := [(h0, .inr (8, [.ref a1, .ref a2, .ref a3, .ref a4, .int (nI cn), .int ln, .int (nI at0), .int fa, .int fp])), (a1, .inl (cy 1, 1601, .inl kf)), (a2, .inl (cy 1, 1601, .inl pf)), (a3, .inl (cy 2, 1601, .inr (.inl wf)))]) [0, 1, 2, 3] rfl
      have hD9 := hD.sub (ws' := [(h0, .inr (8, [.ref a1, .ref a2, .ref a3, .ref a4, .int (nI cn), .int ln, .int (nI at0), .int fa, .int fp])), (a1, .inl (cy 1, 1601, .inl kf)), (a2, .inl (cy 1, 1601, .inl pf)), (a3, .inl (cy 2, 1601, .inr (.inl wf)))]) [0, 1, 2, 3] (by decide) rfl
      refine W.widen (k := 0) (n := 0) (Nat.le_of_ble_eq_true rfl) (Nat.le_of_ble_eq_true rfl) ?_
      exact W.zret (v := 0) hx hb hr rfl (fun t ht hW => ⟨⟨0, (at0, fa, fp), rfl, ha, by rw [ht]; exact hP9, hD9⟩, hS.F ht⟩) hS.2.2 dX8_is_25
    · refine lv_iconst (v := 1) hx hb dX8_is_20 (by decide) ?_
      refine lv_goto (tgt := 25) hx hb dX8_is_21 (by decide) ?_
      have hP9 := hP.sub (ws' := [(h0, .inr (8, [.ref a1, .ref a2, .ref a3, .ref a4, .int (nI cn), .int ln, .int (nI at0), .int fa, .int fp])), (a1, .inl (cy 1, 1601, .inl kf)), (a2, .inl (cy 1, 1601, .inl pf)), (a3, .inl (cy 2, 1601, .inr (.inl wf)))]) [0, 1, 2, 3] rfl
      have hD9 := hD.sub (ws' := [(h0, .inr (8, [.ref a1, .ref a2, .ref a3, .ref a4, .int (nI cn), .int ln, .int (nI at0), .int fa, .int fp])), (a1, .inl (cy 1, 1601, .inl kf)), (a2, .inl (cy 1, 1601, .inl pf)), (a3, .inl (cy 2, 1601, .inr (.inl wf)))]) [0, 1, 2, 3] (by decide) rfl
      refine W.widen (k := 0) (n := 0) (Nat.le_of_ble_eq_true rfl) (Nat.le_of_ble_eq_true rfl) ?_
      exact W.zret (v := 1) hx hb hr rfl (fun t ht hW => ⟨⟨1, (at0, fa, fp), rfl, ha, by rw [ht]; exact hP9, hD9⟩, hS.F ht⟩) hS.2.2 dX8_is_25

set_option maxHeartbeats 4000000 in
set_option maxRecDepth 100000 in
theorem g_fail (l : Launch) (D : va_G) (cy : Nat → ClassId) (sz : Nat) (h0 : Nat) (a1 : Nat) (a2 : Nat) (a3 : Nat) (a4 : Nat) (kf : Nat → Int32) (pf : Nat → Int32) (wf : Nat → Int64) (cn : Nat) (ln : Int32) (at0 : Nat) (fa : Int32) (fp : Int32) (p0 : Int32) (hc : cn ≤ 1600) (ha : at0 ≤ cn) : Met l yX8_fail (.code yX8_fail cX8_fail 2 none :: TB) ({ frames := 0, cells := 0, slots := 0, locals := 0 }) (va_Pc [.ref h0, .int p0] (fun U => U.heap.size = sz ∧ va_P D vwCl [(h0, .inr (8, [.ref a1, .ref a2, .ref a3, .ref a4, .int (nI cn), .int ln, .int (nI at0), .int fa, .int fp])), (a1, .inl (cy 1, 1601, .inl kf)), (a2, .inl (cy 1, 1601, .inl pf)), (a3, .inl (cy 2, 1601, .inr (.inl wf)))] U.heap ∧ va_K D vwCl (TY cy) U ∧ va_D (fun _ => True) [(h0, .inr (8, [.ref a1, .ref a2, .ref a3, .ref a4, .int (nI cn), .int ln, .int (nI at0), .int fa, .int fp])), (a1, .inl (cy 1, 1601, .inl kf)), (a2, .inl (cy 1, 1601, .inl pf)), (a3, .inl (cy 2, 1601, .inr (.inl wf)))])) (va_Qv (fun (u : Nat × Int32 × Int32) => u.1 ≤ cn) (fun (u : Nat × Int32 × Int32) t => va_P D vwCl [(h0, .inr (8, [.ref a1, .ref a2, .ref a3, .ref a4, .int (nI cn), .int ln, .int (nI u.1), .int u.2.1, .int u.2.2])), (a1, .inl (cy 1, 1601, .inl kf)), (a2, .inl (cy 1, 1601, .inl pf)), (a3, .inl (cy 2, 1601, .inr (.inl wf)))] t.heap ∧ va_D (va_A [(h0, .inr (8, [.ref a1, .ref a2, .ref a3, .ref a4, .int (nI cn), .int ln, .int (nI at0), .int fa, .int fp])), (a1, .inl (cy 1, 1601, .inl kf)), (a2, .inl (cy 1, 1601, .inl pf)), (a3, .inl (cy 2, 1601, .inr (.inl wf)))] sz) [(h0, .inr (8, [.ref a1, .ref a2, .ref a3, .ref a4, .int (nI cn), .int ln, .int (nI u.1), .int u.2.1, .int u.2.2])), (a1, .inl (cy 1, 1601, .inl kf)), (a2, .inl (cy 1, 1601, .inl pf)), (a3, .inl (cy 2, 1601, .inr (.inl wf)))]) (va_A [(h0, .inr (8, [.ref a1, .ref a2, .ref a3, .ref a4, .int (nI cn), .int ln, .int (nI at0), .int fa, .int fp])), (a1, .inl (cy 1, 1601, .inl kf)), (a2, .inl (cy 1, 1601, .inl pf)), (a3, .inl (cy 2, 1601, .inr (.inl wf)))] sz)) 0 0 (va_A [(h0, .inr (8, [.ref a1, .ref a2, .ref a3, .ref a4, .int (nI cn), .int ln, .int (nI at0), .int fa, .int fp])), (a1, .inl (cy 1, 1601, .inl kf)), (a2, .inl (cy 1, 1601, .inl pf)), (a3, .inl (cy 2, 1601, .inr (.inl wf)))] sz) := by
  refine Met.ofW (cc := cX8_fail) (maxL := 2) (ret := none) (by decide) rfl ?_
  intro p e s m args below meth c s₁ B hml hv
  obtain ⟨rfl, hsz, hP, hK, hD0⟩ := hv
  have hx := B.exec
  have hb := B.bytes
  have hr := B.returns
  have hts := atoms_spec (ws := .code yX8_fail cX8_fail 2 none :: TB) B.pre
  have hT : ∀ w ∈ TB, w.before _ s = true := fun w h => hts w (List.mem_cons_of_mem _ h)
  have hown : s.vm.findClass "MakerStarts$Tokens" = some m.cls := findClass_of_methodNamed B.named
  have hlocks := B.notSynchronized
  subst hsz
  have hD := hD0.self (sz := s.heap.size)
  generalize hAe : va_A [(h0, .inr (8, [.ref a1, .ref a2, .ref a3, .ref a4, .int (nI cn), .int ln, .int (nI at0), .int fa, .int fp])), (a1, .inl (cy 1, 1601, .inl kf)), (a2, .inl (cy 1, 1601, .inl pf)), (a3, .inl (cy 2, 1601, .inr (.inl wf)))] s.heap.size = A at hD  ⊢
  have hA : ∀ q : Nat, s.heap.size ≤ q → A q := fun q h => by rw [← hAe]; exact Or.inr h
  have hS : va_S A s.heap s.heap [] := va_S.rf
  have hP : va_P D vwCl [(h0, .inr (8, [.ref a1, .ref a2, .ref a3, .ref a4, .int (nI cn), .int ln, .int (nI at0), .int fa, .int fp])), (a1, .inl (cy 1, 1601, .inl kf)), (a2, .inl (cy 1, 1601, .inl pf)), (a3, .inl (cy 2, 1601, .inr (.inl wf)))] s.heap := hP
  have hl := lv_entry ([.ref h0, .int p0]) (n := 2) (Nat.le_of_ble_eq_true rfl)
  rw [lg_entry_eq]
  generalize (lg_sl ([.ref h0, .int p0]) ++ List.replicate (2 - (lg_sl ([.ref h0, .int p0])).length) Slot.unset).toArray = ls at hl ⊢
  have hl : lv_has ls 2 [(0, .ref h0), (1, .int p0)] := hl
  refine lv_aload_n hx hb dX8_fail_0 rfl (lv_at hl 0 rfl) ?_
  refine va_get (D := D) (ci := 8) (v := .int fa) (C := RX8) (T := TX8) (N := 9) hx hb hT i_TX8 hown hK hP 0 rfl rfl 7 (by decide) (hT _ t_323) (fun _ h9 => h9) rfl dX8_fail_1 ?_
  refine lv_if_ne (tgt := 42) hx hb dX8_fail_4 (by decide) (fun c1 => ?_) (fun c1 => ?_)
  · have hP9 := hP.sub (ws' := [(h0, .inr (8, [.ref a1, .ref a2, .ref a3, .ref a4, .int (nI cn), .int ln, .int (nI at0), .int fa, .int fp])), (a1, .inl (cy 1, 1601, .inl kf)), (a2, .inl (cy 1, 1601, .inl pf)), (a3, .inl (cy 2, 1601, .inr (.inl wf)))]) [0, 1, 2, 3] rfl
    have hD9 := hD.sub (ws' := [(h0, .inr (8, [.ref a1, .ref a2, .ref a3, .ref a4, .int (nI cn), .int ln, .int (nI at0), .int fa, .int fp])), (a1, .inl (cy 1, 1601, .inl kf)), (a2, .inl (cy 1, 1601, .inl pf)), (a3, .inl (cy 2, 1601, .inr (.inl wf)))]) [0, 1, 2, 3] (by decide) rfl
    refine W.widen (k := 0) (n := 0) (Nat.le_of_ble_eq_true rfl) (Nat.le_of_ble_eq_true rfl) ?_
    exact W.vret hx hb hr (fun t ht hW => ⟨⟨(at0, fa, fp), rfl, ha, by rw [ht]; exact hP9, hD9⟩, hS.F ht⟩) hS.2.2 dX8_fail_42
  · refine lv_aload_n hx hb dX8_fail_7 rfl (lv_at hl 0 rfl) ?_
    refine lv_aload_n hx hb dX8_fail_8 rfl (lv_at hl 0 rfl) ?_
    refine va_get (D := D) (ci := 8) (v := .ref a1) (C := RX8) (T := TX8) (N := 9) hx hb hT i_TX8 hown hK hP 0 rfl rfl 0 (by decide) (hT _ t_316) (fun _ h9 => h9) rfl dX8_fail_9 ?_
    refine lv_aload_n hx hb dX8_fail_12 rfl (lv_at hl 0 rfl) ?_
    refine va_get (D := D) (ci := 8) (v := .int (nI at0)) (C := RX8) (T := TX8) (N := 9) hx hb hT i_TX8 hown hK hP 0 rfl rfl 6 (by decide) (hT _ t_322) (fun _ h9 => h9) rfl dX8_fail_13 ?_
    refine va_iald hx hb hK hP 1 1 rfl rfl (vp_in_nI (by omega) (by decide)) dX8_fail_16 ?_
    refine lv_topi (fun z2 e3 => ?_)
    refine lv_iconst (v := 1) hx hb dX8_fail_17 (by decide) ?_
    refine lv_icmp_ne (tgt := 25) hx hb dX8_fail_18 (by decide) (fun c4 => ?_) (fun c4 => ?_)
    · refine lv_iload_n hx hb dX8_fail_25 rfl (lv_at hl 1 rfl) ?_
      refine va_put (D := D) (ci := 8) (v := .int p0) (ty := .int) (C := RX8) (T := TX8) (N := 9) hx hb hT i_TX8 tyX8 tyX8_ok nmX8 hown hK hP hD hS 0 rfl rfl 7 (by decide) (hT _ t_323) (fun _ h9 => h9) rfl (by decide +kernel) rfl rfl (Nat.le_of_ble_eq_true rfl) dX8_fail_26 (fun H locs hP hD hS => ?_)
      have hP : va_P D vwCl [(h0, .inr (8, [.ref a1, .ref a2, .ref a3, .ref a4, .int (nI cn), .int ln, .int (nI at0), .int p0, .int fp])), (a1, .inl (cy 1, 1601, .inl kf)), (a2, .inl (cy 1, 1601, .inl pf)), (a3, .inl (cy 2, 1601, .inr (.inl wf)))] H := hP
      have hD : va_D A [(h0, .inr (8, [.ref a1, .ref a2, .ref a3, .ref a4, .int (nI cn), .int ln, .int (nI at0), .int p0, .int fp])), (a1, .inl (cy 1, 1601, .inl kf)), (a2, .inl (cy 1, 1601, .inl pf)), (a3, .inl (cy 2, 1601, .inr (.inl wf)))] := hD
      refine lv_aload_n hx hb dX8_fail_29 rfl (lv_at hl 0 rfl) ?_
      refine lv_aload_n hx hb dX8_fail_30 rfl (lv_at hl 0 rfl) ?_
      refine va_get (D := D) (ci := 8) (v := .ref a2) (C := RX8) (T := TX8) (N := 9) hx hb hT i_TX8 hown hK hP 0 rfl rfl 1 (by decide) (hT _ t_317) (fun _ h9 => h9) rfl dX8_fail_31 ?_
      refine lv_aload_n hx hb dX8_fail_34 rfl (lv_at hl 0 rfl) ?_
      refine va_get (D := D) (ci := 8) (v := .int (nI at0)) (C := RX8) (T := TX8) (N := 9) hx hb hT i_TX8 hown hK hP 0 rfl rfl 6 (by decide) (hT _ t_322) (fun _ h9 => h9) rfl dX8_fail_35 ?_
      refine va_iald hx hb hK hP 2 1 rfl rfl (vp_in_nI (by omega) (by decide)) dX8_fail_38 ?_
      refine lv_topi (fun z5 e6 => ?_)
      refine va_put (D := D) (ci := 8) (v := .int z5) (ty := .int) (C := RX8) (T := TX8) (N := 9) hx hb hT i_TX8 tyX8 tyX8_ok nmX8 hown hK hP hD hS 0 rfl rfl 8 (by decide) (hT _ t_326) (fun _ h9 => h9) rfl (by decide +kernel) rfl rfl (Nat.le_of_ble_eq_true rfl) dX8_fail_39 (fun H locs hP hD hS => ?_)
      have hP : va_P D vwCl [(h0, .inr (8, [.ref a1, .ref a2, .ref a3, .ref a4, .int (nI cn), .int ln, .int (nI at0), .int p0, .int z5])), (a1, .inl (cy 1, 1601, .inl kf)), (a2, .inl (cy 1, 1601, .inl pf)), (a3, .inl (cy 2, 1601, .inr (.inl wf)))] H := hP
      have hD : va_D A [(h0, .inr (8, [.ref a1, .ref a2, .ref a3, .ref a4, .int (nI cn), .int ln, .int (nI at0), .int p0, .int z5])), (a1, .inl (cy 1, 1601, .inl kf)), (a2, .inl (cy 1, 1601, .inl pf)), (a3, .inl (cy 2, 1601, .inr (.inl wf)))] := hD
      have hP9 := hP.sub (ws' := [(h0, .inr (8, [.ref a1, .ref a2, .ref a3, .ref a4, .int (nI cn), .int ln, .int (nI at0), .int p0, .int z5])), (a1, .inl (cy 1, 1601, .inl kf)), (a2, .inl (cy 1, 1601, .inl pf)), (a3, .inl (cy 2, 1601, .inr (.inl wf)))]) [0, 1, 2, 3] rfl
      have hD9 := hD.sub (ws' := [(h0, .inr (8, [.ref a1, .ref a2, .ref a3, .ref a4, .int (nI cn), .int ln, .int (nI at0), .int p0, .int z5])), (a1, .inl (cy 1, 1601, .inl kf)), (a2, .inl (cy 1, 1601, .inl pf)), (a3, .inl (cy 2, 1601, .inr (.inl wf)))]) [0, 1, 2, 3] (by decide) rfl
      refine W.widen (k := 0) (n := 0) (Nat.le_of_ble_eq_true rfl) (Nat.le_of_ble_eq_true rfl) ?_
      exact W.vret hx hb hr (fun t ht hW => ⟨⟨(at0, p0, z5), rfl, ha, by rw [ht]; exact hP9, hD9⟩, hS.F ht⟩) hS.2.2 dX8_fail_42
    · refine lv_iconst (v := 1) hx hb dX8_fail_21 (by decide) ?_
      refine lv_goto (tgt := 26) hx hb dX8_fail_22 (by decide) ?_
      refine va_put (D := D) (ci := 8) (v := .int 1) (ty := .int) (C := RX8) (T := TX8) (N := 9) hx hb hT i_TX8 tyX8 tyX8_ok nmX8 hown hK hP hD hS 0 rfl rfl 7 (by decide) (hT _ t_323) (fun _ h9 => h9) rfl (by decide +kernel) rfl rfl (Nat.le_of_ble_eq_true rfl) dX8_fail_26 (fun H locs hP hD hS => ?_)
      have hP : va_P D vwCl [(h0, .inr (8, [.ref a1, .ref a2, .ref a3, .ref a4, .int (nI cn), .int ln, .int (nI at0), .int 1, .int fp])), (a1, .inl (cy 1, 1601, .inl kf)), (a2, .inl (cy 1, 1601, .inl pf)), (a3, .inl (cy 2, 1601, .inr (.inl wf)))] H := hP
      have hD : va_D A [(h0, .inr (8, [.ref a1, .ref a2, .ref a3, .ref a4, .int (nI cn), .int ln, .int (nI at0), .int 1, .int fp])), (a1, .inl (cy 1, 1601, .inl kf)), (a2, .inl (cy 1, 1601, .inl pf)), (a3, .inl (cy 2, 1601, .inr (.inl wf)))] := hD
      refine lv_aload_n hx hb dX8_fail_29 rfl (lv_at hl 0 rfl) ?_
      refine lv_aload_n hx hb dX8_fail_30 rfl (lv_at hl 0 rfl) ?_
      refine va_get (D := D) (ci := 8) (v := .ref a2) (C := RX8) (T := TX8) (N := 9) hx hb hT i_TX8 hown hK hP 0 rfl rfl 1 (by decide) (hT _ t_317) (fun _ h9 => h9) rfl dX8_fail_31 ?_
      refine lv_aload_n hx hb dX8_fail_34 rfl (lv_at hl 0 rfl) ?_
      refine va_get (D := D) (ci := 8) (v := .int (nI at0)) (C := RX8) (T := TX8) (N := 9) hx hb hT i_TX8 hown hK hP 0 rfl rfl 6 (by decide) (hT _ t_322) (fun _ h9 => h9) rfl dX8_fail_35 ?_
      refine va_iald hx hb hK hP 2 1 rfl rfl (vp_in_nI (by omega) (by decide)) dX8_fail_38 ?_
      refine lv_topi (fun z7 e8 => ?_)
      refine va_put (D := D) (ci := 8) (v := .int z7) (ty := .int) (C := RX8) (T := TX8) (N := 9) hx hb hT i_TX8 tyX8 tyX8_ok nmX8 hown hK hP hD hS 0 rfl rfl 8 (by decide) (hT _ t_326) (fun _ h9 => h9) rfl (by decide +kernel) rfl rfl (Nat.le_of_ble_eq_true rfl) dX8_fail_39 (fun H locs hP hD hS => ?_)
      have hP : va_P D vwCl [(h0, .inr (8, [.ref a1, .ref a2, .ref a3, .ref a4, .int (nI cn), .int ln, .int (nI at0), .int 1, .int z7])), (a1, .inl (cy 1, 1601, .inl kf)), (a2, .inl (cy 1, 1601, .inl pf)), (a3, .inl (cy 2, 1601, .inr (.inl wf)))] H := hP
      have hD : va_D A [(h0, .inr (8, [.ref a1, .ref a2, .ref a3, .ref a4, .int (nI cn), .int ln, .int (nI at0), .int 1, .int z7])), (a1, .inl (cy 1, 1601, .inl kf)), (a2, .inl (cy 1, 1601, .inl pf)), (a3, .inl (cy 2, 1601, .inr (.inl wf)))] := hD
      have hP9 := hP.sub (ws' := [(h0, .inr (8, [.ref a1, .ref a2, .ref a3, .ref a4, .int (nI cn), .int ln, .int (nI at0), .int 1, .int z7])), (a1, .inl (cy 1, 1601, .inl kf)), (a2, .inl (cy 1, 1601, .inl pf)), (a3, .inl (cy 2, 1601, .inr (.inl wf)))]) [0, 1, 2, 3] rfl
      have hD9 := hD.sub (ws' := [(h0, .inr (8, [.ref a1, .ref a2, .ref a3, .ref a4, .int (nI cn), .int ln, .int (nI at0), .int 1, .int z7])), (a1, .inl (cy 1, 1601, .inl kf)), (a2, .inl (cy 1, 1601, .inl pf)), (a3, .inl (cy 2, 1601, .inr (.inl wf)))]) [0, 1, 2, 3] (by decide) rfl
      refine W.widen (k := 0) (n := 0) (Nat.le_of_ble_eq_true rfl) (Nat.le_of_ble_eq_true rfl) ?_
      exact W.vret hx hb hr (fun t ht hW => ⟨⟨(at0, 1, z7), rfl, ha, by rw [ht]; exact hP9, hD9⟩, hS.F ht⟩) hS.2.2 dX8_fail_42
