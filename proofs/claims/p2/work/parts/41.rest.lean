theorem t_940 : (Jvm.Cond.methodLink "MakerStarts$Text" (74 : Nat) ({ cls := "MakerStarts$Text", name := "put", desc := "(I)V" } : Jvm.MethodName)) ∈ TB := inTB 940 (by decide +kernel) (by decide +kernel)
theorem t_941 : (Jvm.Cond.instanceMethod ({ cls := "MakerStarts$Text", name := "put", desc := "(I)V" } : Jvm.MethodName)) ∈ TB := inTB 941 (by decide +kernel) (by decide +kernel)
theorem t_942 : (Jvm.Cond.selects "MakerStarts$Text" ({ cls := "MakerStarts$Text", name := "put", desc := "(I)V" } : Jvm.MethodName) ({ cls := "MakerStarts$Text", name := "put", desc := "(I)V" } : Jvm.MethodName)) ∈ TB := inTB 942 (by decide +kernel) (by decide +kernel)
theorem t_943 : (Jvm.Cond.code ({ cls := "MakerStarts$Text", name := "put", desc := "(I)V" } : Jvm.MethodName) prog_9_method_11_code (2 : Nat) (Option.none : Option Jvm.ClassFile.FieldType)) ∈ TB := inTB 943 (by decide +kernel) (by decide +kernel)
theorem dX4_stateOf_0 : decode cX4_stateOf 0 = .ok (.iload_n 1, 1) := by decide +kernel
theorem dX4_stateOf_1 : decode cX4_stateOf 1 = .ok (.ifCond .lt 18, 3) := by decide +kernel
theorem dX4_stateOf_4 : decode cX4_stateOf 4 = .ok (.iload_n 1, 1) := by decide +kernel
theorem dX4_stateOf_5 : decode cX4_stateOf 5 = .ok (.bipush 8, 2) := by decide +kernel
theorem dX4_stateOf_7 : decode cX4_stateOf 7 = .ok (.if_icmp .ge 12, 3) := by decide +kernel
theorem dX4_stateOf_10 : decode cX4_stateOf 10 = .ok (.aload_n 0, 1) := by decide +kernel
theorem dX4_stateOf_11 : decode cX4_stateOf 11 = .ok (.getfield 15, 3) := by decide +kernel
theorem dX4_stateOf_14 : decode cX4_stateOf 14 = .ok (.iload_n 1, 1) := by decide +kernel
theorem dX4_stateOf_15 : decode cX4_stateOf 15 = .ok (.iaload, 1) := by decide +kernel
theorem dX4_stateOf_16 : decode cX4_stateOf 16 = .ok (.goto 4, 3) := by decide +kernel
theorem dX4_stateOf_19 : decode cX4_stateOf 19 = .ok (.iconst (-1), 1) := by decide +kernel
theorem dX4_stateOf_20 : decode cX4_stateOf 20 = .ok (.ireturn, 1) := by decide +kernel
theorem dX4_valueAt_0 : decode cX4_valueAt 0 = .ok (.iload_n 1, 1) := by decide +kernel
theorem dX4_valueAt_1 : decode cX4_valueAt 1 = .ok (.ifCond .lt 18, 3) := by decide +kernel
theorem dX4_valueAt_4 : decode cX4_valueAt 4 = .ok (.iload_n 1, 1) := by decide +kernel
theorem dX4_valueAt_5 : decode cX4_valueAt 5 = .ok (.bipush 64, 2) := by decide +kernel
theorem dX4_valueAt_7 : decode cX4_valueAt 7 = .ok (.if_icmp .ge 12, 3) := by decide +kernel
theorem dX4_valueAt_10 : decode cX4_valueAt 10 = .ok (.aload_n 0, 1) := by decide +kernel
theorem dX4_valueAt_11 : decode cX4_valueAt 11 = .ok (.getfield 9, 3) := by decide +kernel
theorem dX4_valueAt_14 : decode cX4_valueAt 14 = .ok (.iload_n 1, 1) := by decide +kernel
theorem dX4_valueAt_15 : decode cX4_valueAt 15 = .ok (.iaload, 1) := by decide +kernel
theorem dX4_valueAt_16 : decode cX4_valueAt 16 = .ok (.goto 4, 3) := by decide +kernel
theorem dX4_valueAt_19 : decode cX4_valueAt 19 = .ok (.iconst 0, 1) := by decide +kernel
theorem dX4_valueAt_20 : decode cX4_valueAt 20 = .ok (.ireturn, 1) := by decide +kernel
theorem dX7_put__0 : decode cX7_put_ 0 = .ok (.aload_n 0, 1) := by decide +kernel
theorem dX7_put__1 : decode cX7_put_ 1 = .ok (.iload_n 1, 1) := by decide +kernel
theorem dX7_put__2 : decode cX7_put_ 2 = .ok (.invokevirtual 74, 3) := by decide +kernel
theorem dX7_put__5 : decode cX7_put_ 5 = .ok (.aload_n 0, 1) := by decide +kernel
theorem dX7_put__6 : decode cX7_put_ 6 = .ok (.iload_n 2, 1) := by decide +kernel
theorem dX7_put__7 : decode cX7_put_ 7 = .ok (.invokevirtual 74, 3) := by decide +kernel
theorem dX7_put__10 : decode cX7_put_ 10 = .ok (.return_, 1) := by decide +kernel
set_option maxHeartbeats 4000000 in
set_option maxRecDepth 100000 in
theorem g_put2 (l : Launch) (D : va_G) (cy : Nat → ClassId) (sz : Nat) (h0 : Nat) (a1 : Nat) (a2 : Nat) (a3 : Nat) (a4 : Nat) (ct : Int32) (z1 : Nat) (z2 : Nat) (fa : Int32) (fp : Int32) (cf : Nat → Int32) (sf : Nat → Int32) (p0 : Int32) (p1 : Int32) (hz1 : z1 ≤ 4288) (hz2 : z2 ≤ 2064) : Met l yX7_put_ (.code yX7_put_ cX7_put_ 3 none :: TB) ({ frames := 1, cells := 0, slots := 0, locals := 21 }) (va_Pc [.ref h0, .int p0, .int p1] (fun U => U.heap.size = sz ∧ va_P D vwCl [(h0, .inr (7, [.ref a1, .int ct, .ref a2, .ref a3, .int (nI z1), .ref a4, .int (nI z2), .int fa, .int fp])), (a3, .inl (cy 1, 4288, .inl cf))] U.heap ∧ va_K D vwCl (TY cy) U ∧ va_D (fun _ => True) [(h0, .inr (7, [.ref a1, .int ct, .ref a2, .ref a3, .int (nI z1), .ref a4, .int (nI z2), .int fa, .int fp])), (a3, .inl (cy 1, 4288, .inl cf))])) (va_Qv (fun (u : Nat × (Nat → Int32)) => u.1 ≤ 4288) (fun (u : Nat × (Nat → Int32)) t => va_P D vwCl [(h0, .inr (7, [.ref a1, .int ct, .ref a2, .ref a3, .int (nI u.1), .ref a4, .int (nI z2), .int fa, .int fp])), (a3, .inl (cy 1, 4288, .inl u.2))] t.heap ∧ va_D (va_A [(h0, .inr (7, [.ref a1, .int ct, .ref a2, .ref a3, .int (nI z1), .ref a4, .int (nI z2), .int fa, .int fp])), (a3, .inl (cy 1, 4288, .inl cf))] sz) [(h0, .inr (7, [.ref a1, .int ct, .ref a2, .ref a3, .int (nI u.1), .ref a4, .int (nI z2), .int fa, .int fp])), (a3, .inl (cy 1, 4288, .inl u.2))]) (va_A [(h0, .inr (7, [.ref a1, .int ct, .ref a2, .ref a3, .int (nI z1), .ref a4, .int (nI z2), .int fa, .int fp])), (a3, .inl (cy 1, 4288, .inl cf))] sz)) 0 0 (va_A [(h0, .inr (7, [.ref a1, .int ct, .ref a2, .ref a3, .int (nI z1), .ref a4, .int (nI z2), .int fa, .int fp])), (a3, .inl (cy 1, 4288, .inl cf))] sz) := by
  refine Met.ofW (cc := cX7_put_) (maxL := 3) (ret := none) (by decide) rfl ?_
  intro p e s m args below meth c s₁ B hml hv
  obtain ⟨rfl, hsz, hP, hK, hD0⟩ := hv
  have hx := B.exec
  have hb := B.bytes
  have hr := B.returns
  have hts := atoms_spec (ws := .code yX7_put_ cX7_put_ 3 none :: TB) B.pre
  have hT : ∀ w ∈ TB, w.before _ s = true := fun w h => hts w (List.mem_cons_of_mem _ h)
  have hown : s.vm.findClass "MakerStarts$Text" = some m.cls := findClass_of_methodNamed B.named
  have hlocks := B.notSynchronized
  subst hsz
  have hD := hD0.self (sz := s.heap.size)
  generalize hAe : va_A [(h0, .inr (7, [.ref a1, .int ct, .ref a2, .ref a3, .int (nI z1), .ref a4, .int (nI z2), .int fa, .int fp])), (a3, .inl (cy 1, 4288, .inl cf))] s.heap.size = A at hD  ⊢
  have hA : ∀ q : Nat, s.heap.size ≤ q → A q := fun q h => by rw [← hAe]; exact Or.inr h
  have hS : va_S A s.heap s.heap [] := va_S.rf
  have hP : va_P D vwCl [(h0, .inr (7, [.ref a1, .int ct, .ref a2, .ref a3, .int (nI z1), .ref a4, .int (nI z2), .int fa, .int fp])), (a3, .inl (cy 1, 4288, .inl cf))] s.heap := hP
  have hl := lv_entry ([.ref h0, .int p0, .int p1]) (n := 3) (Nat.le_of_ble_eq_true rfl)
  rw [lg_entry_eq]
  generalize (lg_sl ([.ref h0, .int p0, .int p1]) ++ List.replicate (3 - (lg_sl ([.ref h0, .int p0, .int p1])).length) Slot.unset).toArray = ls at hl ⊢
  have hl : lv_has ls 3 [(0, .ref h0), (1, .int p0), (2, .int p1)] := hl
  refine lv_aload_n hx hb dX7_put__0 rfl (lv_at hl 0 rfl) ?_
  refine lv_iload_n hx hb dX7_put__1 rfl (lv_at hl 1 rfl) ?_
  have hPc := hP.sub (ws' := [(h0, .inr (7, [.ref a1, .int ct, .ref a2, .ref a3, .int (nI z1), .ref a4, .int (nI z2), .int fa, .int fp])), (a3, .inl (cy 1, 4288, .inl cf))]) [0, 1] rfl
  have hDc := hD.sub (ws' := [(h0, .inr (7, [.ref a1, .int ct, .ref a2, .ref a3, .int (nI z1), .ref a4, .int (nI z2), .int fa, .int fp])), (a3, .inl (cy 1, 4288, .inl cf))]) [0, 1] (by decide) rfl
  have hFc := va_free (wc := [(h0, .inr (7, [.ref a1, .int ct, .ref a2, .ref a3, .int (nI z1), .ref a4, .int (nI z2), .int fa, .int fp])), (a3, .inl (cy 1, 4288, .inl cf))]) hD hS hA [0, 1] rfl
  refine va_callv (va_runV (As := [.int p0]) (rest := []) ⟨hx, hb, hml, hown, hT⟩ (g_put l D cy s.heap.size h0 a1 a2 a3 a4 ct z1 z2 fa fp cf sf p0 hz1 hz2) (cwV 1 hT (gTBV t_940 t_941 t_942 t_139 t_943) rfl rfl rfl (by decide +kernel) ⟨Nat.le_of_ble_eq_true rfl, Nat.le_of_ble_eq_true rfl⟩) ⟨fun a U g mk q => by obtain ⟨q0, q1, qP, qK, qD⟩ := q; exact ⟨q0, q1, qP, va_K.moved (u := U) (U := U.calling g mk a) (Vm.Alike.refl U.vm) qK, qD⟩, va_recv hK hPc (ci := 7) (q0 := 0) rfl rfl, fun U hU hW => ⟨rfl, by rw [hU], by rw [hU]; exact hPc, va_K.moved hW.alike hK, hDc.weaken (fun _ _ _ _ => trivial)⟩⟩ rfl rfl hl.1 rfl (lv_room (Nat.le_of_ble_eq_true rfl)) dX7_put__2 ⟨Nat.le_of_ble_eq_true rfl, Nat.le_of_ble_eq_true rfl⟩) hS (fun q _ h => hFc q h) hFc (fun  u t H1 locs ht hvm w1 hB hz1 hk1 hS => ?_)
  obtain ⟨k2, k3⟩ := u
  obtain ⟨hP1, hD1⟩ := hB
  rw [ht] at hP1
  obtain ⟨hP, hD⟩ := va_join (wr := []) (w1 := [(h0, .inr (7, [.ref a1, .int ct, .ref a2, .ref a3, .int (nI k2), .ref a4, .int (nI z2), .int fa, .int fp])), (a3, .inl (cy 1, 4288, .inl k3))]) hP hD [0, 1] [] rfl rfl (by decide) (by decide) hk1 hFc hP1 hD1
  generalize H1 = H at hP hS ⊢
  have hP : va_P D vwCl [(h0, .inr (7, [.ref a1, .int ct, .ref a2, .ref a3, .int (nI k2), .ref a4, .int (nI z2), .int fa, .int fp])), (a3, .inl (cy 1, 4288, .inl k3))] H := hP
  have hD : va_D A [(h0, .inr (7, [.ref a1, .int ct, .ref a2, .ref a3, .int (nI k2), .ref a4, .int (nI z2), .int fa, .int fp])), (a3, .inl (cy 1, 4288, .inl k3))] := hD
  refine lv_aload_n hx hb dX7_put__5 rfl (lv_at hl 0 rfl) ?_
  refine lv_iload_n hx hb dX7_put__6 rfl (lv_at hl 2 rfl) ?_
  have hPc := hP.sub (ws' := [(h0, .inr (7, [.ref a1, .int ct, .ref a2, .ref a3, .int (nI k2), .ref a4, .int (nI z2), .int fa, .int fp])), (a3, .inl (cy 1, 4288, .inl k3))]) [0, 1] rfl
  have hDc := hD.sub (ws' := [(h0, .inr (7, [.ref a1, .int ct, .ref a2, .ref a3, .int (nI k2), .ref a4, .int (nI z2), .int fa, .int fp])), (a3, .inl (cy 1, 4288, .inl k3))]) [0, 1] (by decide) rfl
  have hFc := va_free (wc := [(h0, .inr (7, [.ref a1, .int ct, .ref a2, .ref a3, .int (nI k2), .ref a4, .int (nI z2), .int fa, .int fp])), (a3, .inl (cy 1, 4288, .inl k3))]) hD hS hA [0, 1] rfl
  refine va_callv (va_runV (As := [.int p1]) (rest := []) ⟨hx, hb, hml, hown, hT⟩ (g_put l D cy H.size h0 a1 a2 a3 a4 ct k2 z2 fa fp k3 sf p1 w1 hz2) (cwV 1 hT (gTBV t_940 t_941 t_942 t_139 t_943) rfl rfl rfl (by decide +kernel) ⟨Nat.le_of_ble_eq_true rfl, Nat.le_of_ble_eq_true rfl⟩) ⟨fun a U g mk q => by obtain ⟨q0, q1, qP, qK, qD⟩ := q; exact ⟨q0, q1, qP, va_K.moved (u := U) (U := U.calling g mk a) (Vm.Alike.refl U.vm) qK, qD⟩, va_recv hK hPc (ci := 7) (q0 := 0) rfl rfl, fun U hU hW => ⟨rfl, by rw [hU], by rw [hU]; exact hPc, va_K.moved hW.alike hK, hDc.weaken (fun _ _ _ _ => trivial)⟩⟩ rfl rfl hl.1 rfl (lv_room (Nat.le_of_ble_eq_true rfl)) dX7_put__7 ⟨Nat.le_of_ble_eq_true rfl, Nat.le_of_ble_eq_true rfl⟩) hS (fun q _ h => hFc q h) hFc (fun  u t H1 locs ht hvm w4 hB hz1 hk1 hS => ?_)
  obtain ⟨k5, k6⟩ := u
  obtain ⟨hP1, hD1⟩ := hB
  rw [ht] at hP1
  obtain ⟨hP, hD⟩ := va_join (wr := []) (w1 := [(h0, .inr (7, [.ref a1, .int ct, .ref a2, .ref a3, .int (nI k5), .ref a4, .int (nI z2), .int fa, .int fp])), (a3, .inl (cy 1, 4288, .inl k6))]) hP hD [0, 1] [] rfl rfl (by decide) (by decide) hk1 hFc hP1 hD1
  generalize H1 = H at hP hS ⊢
  have hP : va_P D vwCl [(h0, .inr (7, [.ref a1, .int ct, .ref a2, .ref a3, .int (nI k5), .ref a4, .int (nI z2), .int fa, .int fp])), (a3, .inl (cy 1, 4288, .inl k6))] H := hP
  have hD : va_D A [(h0, .inr (7, [.ref a1, .int ct, .ref a2, .ref a3, .int (nI k5), .ref a4, .int (nI z2), .int fa, .int fp])), (a3, .inl (cy 1, 4288, .inl k6))] := hD
  have hP9 := hP.sub (ws' := [(h0, .inr (7, [.ref a1, .int ct, .ref a2, .ref a3, .int (nI k5), .ref a4, .int (nI z2), .int fa, .int fp])), (a3, .inl (cy 1, 4288, .inl k6))]) [0, 1] rfl
  have hD9 := hD.sub (ws' := [(h0, .inr (7, [.ref a1, .int ct, .ref a2, .ref a3, .int (nI k5), .ref a4, .int (nI z2), .int fa, .int fp])), (a3, .inl (cy 1, 4288, .inl k6))]) [0, 1] (by decide) rfl
  refine W.widen (k := 0) (n := 0) (Nat.le_of_ble_eq_true rfl) (Nat.le_of_ble_eq_true rfl) ?_
  exact W.vret hx hb hr (fun t ht hW => ⟨⟨(k5, k6), rfl, w4, by rw [ht]; exact hP9, hD9⟩, hS.F ht⟩) hS.2.2 dX7_put__10

set_option maxHeartbeats 4000000 in
set_option maxRecDepth 100000 in
theorem g_stateOf (l : Launch) (D : va_G) (cy : Nat → ClassId) (sz : Nat) (h0 : Nat) (rtext : Nat) (rvalues : Nat) (rstates : Nat) (rmarks : Nat) (rstack : Nat) (rframes : Nat) (rlowest : Nat) (rnow : Nat) (imade : Int32) (isteps : Int32) (icalls : Int32) (ipc : Int32) (ilenient : Int32) (ileaving : Int32) (ileavingValue : Int32) (iover : Int32) (ianswer : Int32) (mk : Nat) (tp : Nat) (dp : Nat) (gf : Nat → Int32) (p0 : Int32) : Met l yX4_stateOf (.code yX4_stateOf cX4_stateOf 2 (some .int) :: TB) ({ frames := 0, cells := 0, slots := 0, locals := 0 }) (va_Pc [.ref h0, .int p0] (fun U => U.heap.size = sz ∧ va_P D vwCl [(h0, .inr (4, [.ref rtext, .ref rvalues, .ref rstates, .ref rmarks, .int (nI mk), .int imade, .int isteps, .ref rstack, .int (nI tp), .ref rframes, .int (nI dp), .int icalls, .int ipc, .ref rlowest, .ref rnow, .int ilenient, .int ileaving, .int ileavingValue, .int iover, .int ianswer])), (rstates, .inl (cy 1, 8, .inl gf))] U.heap ∧ va_K D vwCl (TY cy) U ∧ va_D (fun _ => True) [(h0, .inr (4, [.ref rtext, .ref rvalues, .ref rstates, .ref rmarks, .int (nI mk), .int imade, .int isteps, .ref rstack, .int (nI tp), .ref rframes, .int (nI dp), .int icalls, .int ipc, .ref rlowest, .ref rnow, .int ilenient, .int ileaving, .int ileavingValue, .int iover, .int ianswer])), (rstates, .inl (cy 1, 8, .inl gf))])) (va_Qi (fun (r : Int32) (u : Unit) => True) (fun (u : Unit) t => va_P D vwCl [(h0, .inr (4, [.ref rtext, .ref rvalues, .ref rstates, .ref rmarks, .int (nI mk), .int imade, .int isteps, .ref rstack, .int (nI tp), .ref rframes, .int (nI dp), .int icalls, .int ipc, .ref rlowest, .ref rnow, .int ilenient, .int ileaving, .int ileavingValue, .int iover, .int ianswer])), (rstates, .inl (cy 1, 8, .inl gf))] t.heap ∧ va_D (va_A [(h0, .inr (4, [.ref rtext, .ref rvalues, .ref rstates, .ref rmarks, .int (nI mk), .int imade, .int isteps, .ref rstack, .int (nI tp), .ref rframes, .int (nI dp), .int icalls, .int ipc, .ref rlowest, .ref rnow, .int ilenient, .int ileaving, .int ileavingValue, .int iover, .int ianswer])), (rstates, .inl (cy 1, 8, .inl gf))] sz) [(h0, .inr (4, [.ref rtext, .ref rvalues, .ref rstates, .ref rmarks, .int (nI mk), .int imade, .int isteps, .ref rstack, .int (nI tp), .ref rframes, .int (nI dp), .int icalls, .int ipc, .ref rlowest, .ref rnow, .int ilenient, .int ileaving, .int ileavingValue, .int iover, .int ianswer])), (rstates, .inl (cy 1, 8, .inl gf))]) (va_A [(h0, .inr (4, [.ref rtext, .ref rvalues, .ref rstates, .ref rmarks, .int (nI mk), .int imade, .int isteps, .ref rstack, .int (nI tp), .ref rframes, .int (nI dp), .int icalls, .int ipc, .ref rlowest, .ref rnow, .int ilenient, .int ileaving, .int ileavingValue, .int iover, .int ianswer])), (rstates, .inl (cy 1, 8, .inl gf))] sz)) 0 0 (va_A [(h0, .inr (4, [.ref rtext, .ref rvalues, .ref rstates, .ref rmarks, .int (nI mk), .int imade, .int isteps, .ref rstack, .int (nI tp), .ref rframes, .int (nI dp), .int icalls, .int ipc, .ref rlowest, .ref rnow, .int ilenient, .int ileaving, .int ileavingValue, .int iover, .int ianswer])), (rstates, .inl (cy 1, 8, .inl gf))] sz) := by
  refine Met.ofW (cc := cX4_stateOf) (maxL := 2) (ret := (some .int)) (by decide) rfl ?_
  intro p e s m args below meth c s₁ B hml hv
  obtain ⟨rfl, hsz, hP, hK, hD0⟩ := hv
  have hx := B.exec
  have hb := B.bytes
  have hr := B.returns
  have hts := atoms_spec (ws := .code yX4_stateOf cX4_stateOf 2 (some .int) :: TB) B.pre
  have hT : ∀ w ∈ TB, w.before _ s = true := fun w h => hts w (List.mem_cons_of_mem _ h)
  have hown : s.vm.findClass "MakerStarts$Machine" = some m.cls := findClass_of_methodNamed B.named
  have hlocks := B.notSynchronized
  subst hsz
  have hD := hD0.self (sz := s.heap.size)
  generalize hAe : va_A [(h0, .inr (4, [.ref rtext, .ref rvalues, .ref rstates, .ref rmarks, .int (nI mk), .int imade, .int isteps, .ref rstack, .int (nI tp), .ref rframes, .int (nI dp), .int icalls, .int ipc, .ref rlowest, .ref rnow, .int ilenient, .int ileaving, .int ileavingValue, .int iover, .int ianswer])), (rstates, .inl (cy 1, 8, .inl gf))] s.heap.size = A at hD  ⊢
  have hA : ∀ q : Nat, s.heap.size ≤ q → A q := fun q h => by rw [← hAe]; exact Or.inr h
  have hS : va_S A s.heap s.heap [] := va_S.rf
  have hP : va_P D vwCl [(h0, .inr (4, [.ref rtext, .ref rvalues, .ref rstates, .ref rmarks, .int (nI mk), .int imade, .int isteps, .ref rstack, .int (nI tp), .ref rframes, .int (nI dp), .int icalls, .int ipc, .ref rlowest, .ref rnow, .int ilenient, .int ileaving, .int ileavingValue, .int iover, .int ianswer])), (rstates, .inl (cy 1, 8, .inl gf))] s.heap := hP
  have hl := lv_entry ([.ref h0, .int p0]) (n := 2) (Nat.le_of_ble_eq_true rfl)
  rw [lg_entry_eq]
  generalize (lg_sl ([.ref h0, .int p0]) ++ List.replicate (2 - (lg_sl ([.ref h0, .int p0])).length) Slot.unset).toArray = ls at hl ⊢
  have hl : lv_has ls 2 [(0, .ref h0), (1, .int p0)] := hl
  refine lv_iload_n hx hb dX4_stateOf_0 rfl (lv_at hl 1 rfl) ?_
  refine lv_if_lt (tgt := 19) hx hb dX4_stateOf_1 (by decide) (fun c1 => ?_) (fun c1 => ?_)
  · refine lv_iconst (v := (-1)) hx hb dX4_stateOf_19 (by decide) ?_
    have hP9 := hP.sub (ws' := [(h0, .inr (4, [.ref rtext, .ref rvalues, .ref rstates, .ref rmarks, .int (nI mk), .int imade, .int isteps, .ref rstack, .int (nI tp), .ref rframes, .int (nI dp), .int icalls, .int ipc, .ref rlowest, .ref rnow, .int ilenient, .int ileaving, .int ileavingValue, .int iover, .int ianswer])), (rstates, .inl (cy 1, 8, .inl gf))]) [0, 1] rfl
    have hD9 := hD.sub (ws' := [(h0, .inr (4, [.ref rtext, .ref rvalues, .ref rstates, .ref rmarks, .int (nI mk), .int imade, .int isteps, .ref rstack, .int (nI tp), .ref rframes, .int (nI dp), .int icalls, .int ipc, .ref rlowest, .ref rnow, .int ilenient, .int ileaving, .int ileavingValue, .int iover, .int ianswer])), (rstates, .inl (cy 1, 8, .inl gf))]) [0, 1] (by decide) rfl
    refine W.widen (k := 0) (n := 0) (Nat.le_of_ble_eq_true rfl) (Nat.le_of_ble_eq_true rfl) ?_
    exact W.iret (v := (-1)) hx hb hr (fun t ht hW => ⟨⟨(-1), (), rfl, trivial, by rw [ht]; exact hP9, hD9⟩, hS.F ht⟩) hS.2.2 dX4_stateOf_20
  · refine lv_iload_n hx hb dX4_stateOf_4 rfl (lv_at hl 1 rfl) ?_
    refine lv_bipush (v := 8) hx hb dX4_stateOf_5 (by decide) ?_
    refine lv_icmp_ge (tgt := 19) hx hb dX4_stateOf_7 (by decide) (fun c2 => ?_) (fun c2 => ?_)
    · refine lv_iconst (v := (-1)) hx hb dX4_stateOf_19 (by decide) ?_
      have hP9 := hP.sub (ws' := [(h0, .inr (4, [.ref rtext, .ref rvalues, .ref rstates, .ref rmarks, .int (nI mk), .int imade, .int isteps, .ref rstack, .int (nI tp), .ref rframes, .int (nI dp), .int icalls, .int ipc, .ref rlowest, .ref rnow, .int ilenient, .int ileaving, .int ileavingValue, .int iover, .int ianswer])), (rstates, .inl (cy 1, 8, .inl gf))]) [0, 1] rfl
      have hD9 := hD.sub (ws' := [(h0, .inr (4, [.ref rtext, .ref rvalues, .ref rstates, .ref rmarks, .int (nI mk), .int imade, .int isteps, .ref rstack, .int (nI tp), .ref rframes, .int (nI dp), .int icalls, .int ipc, .ref rlowest, .ref rnow, .int ilenient, .int ileaving, .int ileavingValue, .int iover, .int ianswer])), (rstates, .inl (cy 1, 8, .inl gf))]) [0, 1] (by decide) rfl
      refine W.widen (k := 0) (n := 0) (Nat.le_of_ble_eq_true rfl) (Nat.le_of_ble_eq_true rfl) ?_
      exact W.iret (v := (-1)) hx hb hr (fun t ht hW => ⟨⟨(-1), (), rfl, trivial, by rw [ht]; exact hP9, hD9⟩, hS.F ht⟩) hS.2.2 dX4_stateOf_20
    · refine lv_aload_n hx hb dX4_stateOf_10 rfl (lv_at hl 0 rfl) ?_
      refine va_get (D := D) (ci := 4) (v := .ref rstates) (C := RX4) (T := TX4) (N := 20) hx hb hT i_TX4 hown hK hP 0 rfl rfl 2 (by decide) (hT _ t_470) (fun _ h9 => h9) rfl dX4_stateOf_11 ?_
      refine lv_iload_n hx hb dX4_stateOf_14 rfl (lv_at hl 1 rfl) ?_
      refine va_iald hx hb hK hP 1 1 rfl rfl (vin_of c1 (n := 8) c2 (by decide)) dX4_stateOf_15 ?_
      refine lv_topi (fun z3 e4 => ?_)
      refine lv_goto (tgt := 20) hx hb dX4_stateOf_16 (by decide) ?_
      have hP9 := hP.sub (ws' := [(h0, .inr (4, [.ref rtext, .ref rvalues, .ref rstates, .ref rmarks, .int (nI mk), .int imade, .int isteps, .ref rstack, .int (nI tp), .ref rframes, .int (nI dp), .int icalls, .int ipc, .ref rlowest, .ref rnow, .int ilenient, .int ileaving, .int ileavingValue, .int iover, .int ianswer])), (rstates, .inl (cy 1, 8, .inl gf))]) [0, 1] rfl
      have hD9 := hD.sub (ws' := [(h0, .inr (4, [.ref rtext, .ref rvalues, .ref rstates, .ref rmarks, .int (nI mk), .int imade, .int isteps, .ref rstack, .int (nI tp), .ref rframes, .int (nI dp), .int icalls, .int ipc, .ref rlowest, .ref rnow, .int ilenient, .int ileaving, .int ileavingValue, .int iover, .int ianswer])), (rstates, .inl (cy 1, 8, .inl gf))]) [0, 1] (by decide) rfl
      refine W.widen (k := 0) (n := 0) (Nat.le_of_ble_eq_true rfl) (Nat.le_of_ble_eq_true rfl) ?_
      exact W.iret (v := z3) hx hb hr (fun t ht hW => ⟨⟨z3, (), rfl, trivial, by rw [ht]; exact hP9, hD9⟩, hS.F ht⟩) hS.2.2 dX4_stateOf_20

set_option maxHeartbeats 4000000 in
set_option maxRecDepth 100000 in
theorem g_valueAt (l : Launch) (D : va_G) (cy : Nat → ClassId) (sz : Nat) (h0 : Nat) (rtext : Nat) (rvalues : Nat) (rstates : Nat) (rmarks : Nat) (rstack : Nat) (rframes : Nat) (rlowest : Nat) (rnow : Nat) (imade : Int32) (isteps : Int32) (icalls : Int32) (ipc : Int32) (ilenient : Int32) (ileaving : Int32) (ileavingValue : Int32) (iover : Int32) (ianswer : Int32) (mk : Nat) (tp : Nat) (dp : Nat) (gf : Nat → Int32) (p0 : Int32) : Met l yX4_valueAt (.code yX4_valueAt cX4_valueAt 2 (some .int) :: TB) ({ frames := 0, cells := 0, slots := 0, locals := 0 }) (va_Pc [.ref h0, .int p0] (fun U => U.heap.size = sz ∧ va_P D vwCl [(h0, .inr (4, [.ref rtext, .ref rvalues, .ref rstates, .ref rmarks, .int (nI mk), .int imade, .int isteps, .ref rstack, .int (nI tp), .ref rframes, .int (nI dp), .int icalls, .int ipc, .ref rlowest, .ref rnow, .int ilenient, .int ileaving, .int ileavingValue, .int iover, .int ianswer])), (rvalues, .inl (cy 1, 64, .inl gf))] U.heap ∧ va_K D vwCl (TY cy) U ∧ va_D (fun _ => True) [(h0, .inr (4, [.ref rtext, .ref rvalues, .ref rstates, .ref rmarks, .int (nI mk), .int imade, .int isteps, .ref rstack, .int (nI tp), .ref rframes, .int (nI dp), .int icalls, .int ipc, .ref rlowest, .ref rnow, .int ilenient, .int ileaving, .int ileavingValue, .int iover, .int ianswer])), (rvalues, .inl (cy 1, 64, .inl gf))])) (va_Qi (fun (r : Int32) (u : Unit) => True) (fun (u : Unit) t => va_P D vwCl [(h0, .inr (4, [.ref rtext, .ref rvalues, .ref rstates, .ref rmarks, .int (nI mk), .int imade, .int isteps, .ref rstack, .int (nI tp), .ref rframes, .int (nI dp), .int icalls, .int ipc, .ref rlowest, .ref rnow, .int ilenient, .int ileaving, .int ileavingValue, .int iover, .int ianswer])), (rvalues, .inl (cy 1, 64, .inl gf))] t.heap ∧ va_D (va_A [(h0, .inr (4, [.ref rtext, .ref rvalues, .ref rstates, .ref rmarks, .int (nI mk), .int imade, .int isteps, .ref rstack, .int (nI tp), .ref rframes, .int (nI dp), .int icalls, .int ipc, .ref rlowest, .ref rnow, .int ilenient, .int ileaving, .int ileavingValue, .int iover, .int ianswer])), (rvalues, .inl (cy 1, 64, .inl gf))] sz) [(h0, .inr (4, [.ref rtext, .ref rvalues, .ref rstates, .ref rmarks, .int (nI mk), .int imade, .int isteps, .ref rstack, .int (nI tp), .ref rframes, .int (nI dp), .int icalls, .int ipc, .ref rlowest, .ref rnow, .int ilenient, .int ileaving, .int ileavingValue, .int iover, .int ianswer])), (rvalues, .inl (cy 1, 64, .inl gf))]) (va_A [(h0, .inr (4, [.ref rtext, .ref rvalues, .ref rstates, .ref rmarks, .int (nI mk), .int imade, .int isteps, .ref rstack, .int (nI tp), .ref rframes, .int (nI dp), .int icalls, .int ipc, .ref rlowest, .ref rnow, .int ilenient, .int ileaving, .int ileavingValue, .int iover, .int ianswer])), (rvalues, .inl (cy 1, 64, .inl gf))] sz)) 0 0 (va_A [(h0, .inr (4, [.ref rtext, .ref rvalues, .ref rstates, .ref rmarks, .int (nI mk), .int imade, .int isteps, .ref rstack, .int (nI tp), .ref rframes, .int (nI dp), .int icalls, .int ipc, .ref rlowest, .ref rnow, .int ilenient, .int ileaving, .int ileavingValue, .int iover, .int ianswer])), (rvalues, .inl (cy 1, 64, .inl gf))] sz) := by
  refine Met.ofW (cc := cX4_valueAt) (maxL := 2) (ret := (some .int)) (by decide) rfl ?_
  intro p e s m args below meth c s₁ B hml hv
  obtain ⟨rfl, hsz, hP, hK, hD0⟩ := hv
  have hx := B.exec
  have hb := B.bytes
  have hr := B.returns
  have hts := atoms_spec (ws := .code yX4_valueAt cX4_valueAt 2 (some .int) :: TB) B.pre
  have hT : ∀ w ∈ TB, w.before _ s = true := fun w h => hts w (List.mem_cons_of_mem _ h)
  have hown : s.vm.findClass "MakerStarts$Machine" = some m.cls := findClass_of_methodNamed B.named
  have hlocks := B.notSynchronized
  subst hsz
  have hD := hD0.self (sz := s.heap.size)
  generalize hAe : va_A [(h0, .inr (4, [.ref rtext, .ref rvalues, .ref rstates, .ref rmarks, .int (nI mk), .int imade, .int isteps, .ref rstack, .int (nI tp), .ref rframes, .int (nI dp), .int icalls, .int ipc, .ref rlowest, .ref rnow, .int ilenient, .int ileaving, .int ileavingValue, .int iover, .int ianswer])), (rvalues, .inl (cy 1, 64, .inl gf))] s.heap.size = A at hD  ⊢
  have hA : ∀ q : Nat, s.heap.size ≤ q → A q := fun q h => by rw [← hAe]; exact Or.inr h
  have hS : va_S A s.heap s.heap [] := va_S.rf
  have hP : va_P D vwCl [(h0, .inr (4, [.ref rtext, .ref rvalues, .ref rstates, .ref rmarks, .int (nI mk), .int imade, .int isteps, .ref rstack, .int (nI tp), .ref rframes, .int (nI dp), .int icalls, .int ipc, .ref rlowest, .ref rnow, .int ilenient, .int ileaving, .int ileavingValue, .int iover, .int ianswer])), (rvalues, .inl (cy 1, 64, .inl gf))] s.heap := hP
  have hl := lv_entry ([.ref h0, .int p0]) (n := 2) (Nat.le_of_ble_eq_true rfl)
  rw [lg_entry_eq]
  generalize (lg_sl ([.ref h0, .int p0]) ++ List.replicate (2 - (lg_sl ([.ref h0, .int p0])).length) Slot.unset).toArray = ls at hl ⊢
  have hl : lv_has ls 2 [(0, .ref h0), (1, .int p0)] := hl
  refine lv_iload_n hx hb dX4_valueAt_0 rfl (lv_at hl 1 rfl) ?_
  refine lv_if_lt (tgt := 19) hx hb dX4_valueAt_1 (by decide) (fun c1 => ?_) (fun c1 => ?_)
  · refine lv_iconst (v := 0) hx hb dX4_valueAt_19 (by decide) ?_
    have hP9 := hP.sub (ws' := [(h0, .inr (4, [.ref rtext, .ref rvalues, .ref rstates, .ref rmarks, .int (nI mk), .int imade, .int isteps, .ref rstack, .int (nI tp), .ref rframes, .int (nI dp), .int icalls, .int ipc, .ref rlowest, .ref rnow, .int ilenient, .int ileaving, .int ileavingValue, .int iover, .int ianswer])), (rvalues, .inl (cy 1, 64, .inl gf))]) [0, 1] rfl
    have hD9 := hD.sub (ws' := [(h0, .inr (4, [.ref rtext, .ref rvalues, .ref rstates, .ref rmarks, .int (nI mk), .int imade, .int isteps, .ref rstack, .int (nI tp), .ref rframes, .int (nI dp), .int icalls, .int ipc, .ref rlowest, .ref rnow, .int ilenient, .int ileaving, .int ileavingValue, .int iover, .int ianswer])), (rvalues, .inl (cy 1, 64, .inl gf))]) [0, 1] (by decide) rfl
    refine W.widen (k := 0) (n := 0) (Nat.le_of_ble_eq_true rfl) (Nat.le_of_ble_eq_true rfl) ?_
    exact W.iret (v := 0) hx hb hr (fun t ht hW => ⟨⟨0, (), rfl, trivial, by rw [ht]; exact hP9, hD9⟩, hS.F ht⟩) hS.2.2 dX4_valueAt_20
  · refine lv_iload_n hx hb dX4_valueAt_4 rfl (lv_at hl 1 rfl) ?_
    refine lv_bipush (v := 64) hx hb dX4_valueAt_5 (by decide) ?_
    refine lv_icmp_ge (tgt := 19) hx hb dX4_valueAt_7 (by decide) (fun c2 => ?_) (fun c2 => ?_)
    · refine lv_iconst (v := 0) hx hb dX4_valueAt_19 (by decide) ?_
      have hP9 := hP.sub (ws' := [(h0, .inr (4, [.ref rtext, .ref rvalues, .ref rstates, .ref rmarks, .int (nI mk), .int imade, .int isteps, .ref rstack, .int (nI tp), .ref rframes, .int (nI dp), .int icalls, .int ipc, .ref rlowest, .ref rnow, .int ilenient, .int ileaving, .int ileavingValue, .int iover, .int ianswer])), (rvalues, .inl (cy 1, 64, .inl gf))]) [0, 1] rfl
      have hD9 := hD.sub (ws' := [(h0, .inr (4, [.ref rtext, .ref rvalues, .ref rstates, .ref rmarks, .int (nI mk), .int imade, .int isteps, .ref rstack, .int (nI tp), .ref rframes, .int (nI dp), .int icalls, .int ipc, .ref rlowest, .ref rnow, .int ilenient, .int ileaving, .int ileavingValue, .int iover, .int ianswer])), (rvalues, .inl (cy 1, 64, .inl gf))]) [0, 1] (by decide) rfl
      refine W.widen (k := 0) (n := 0) (Nat.le_of_ble_eq_true rfl) (Nat.le_of_ble_eq_true rfl) ?_
      exact W.iret (v := 0) hx hb hr (fun t ht hW => ⟨⟨0, (), rfl, trivial, by rw [ht]; exact hP9, hD9⟩, hS.F ht⟩) hS.2.2 dX4_valueAt_20
    · refine lv_aload_n hx hb dX4_valueAt_10 rfl (lv_at hl 0 rfl) ?_
      refine va_get (D := D) (ci := 4) (v := .ref rvalues) (C := RX4) (T := TX4) (N := 20) hx hb hT i_TX4 hown hK hP 0 rfl rfl 1 (by decide) (hT _ t_469) (fun _ h9 => h9) rfl dX4_valueAt_11 ?_
      refine lv_iload_n hx hb dX4_valueAt_14 rfl (lv_at hl 1 rfl) ?_
      refine va_iald hx hb hK hP 1 1 rfl rfl (vin_of c1 (n := 64) c2 (by decide)) dX4_valueAt_15 ?_
      refine lv_topi (fun z3 e4 => ?_)
      refine lv_goto (tgt := 20) hx hb dX4_valueAt_16 (by decide) ?_
      have hP9 := hP.sub (ws' := [(h0, .inr (4, [.ref rtext, .ref rvalues, .ref rstates, .ref rmarks, .int (nI mk), .int imade, .int isteps, .ref rstack, .int (nI tp), .ref rframes, .int (nI dp), .int icalls, .int ipc, .ref rlowest, .ref rnow, .int ilenient, .int ileaving, .int ileavingValue, .int iover, .int ianswer])), (rvalues, .inl (cy 1, 64, .inl gf))]) [0, 1] rfl
      have hD9 := hD.sub (ws' := [(h0, .inr (4, [.ref rtext, .ref rvalues, .ref rstates, .ref rmarks, .int (nI mk), .int imade, .int isteps, .ref rstack, .int (nI tp), .ref rframes, .int (nI dp), .int icalls, .int ipc, .ref rlowest, .ref rnow, .int ilenient, .int ileaving, .int ileavingValue, .int iover, .int ianswer])), (rvalues, .inl (cy 1, 64, .inl gf))]) [0, 1] (by decide) rfl
      refine W.widen (k := 0) (n := 0) (Nat.le_of_ble_eq_true rfl) (Nat.le_of_ble_eq_true rfl) ?_
      exact W.iret (v := z3) hx hb hr (fun t ht hW => ⟨⟨z3, (), rfl, trivial, by rw [ht]; exact hP9, hD9⟩, hS.F ht⟩) hS.2.2 dX4_valueAt_20
