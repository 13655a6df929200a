theorem t_50 : (Jvm.Cond.selects "MakerStarts$Machine" ({ cls := "MakerStarts$Machine", name := "spend", desc := "()V" } : Jvm.MethodName) ({ cls := "MakerStarts$Machine", name := "spend", desc := "()V" } : Jvm.MethodName)) ∈ TB := inTB 50 (by decide +kernel) (by decide +kernel)
theorem t_1420 : (Jvm.Cond.methodLink "MakerStarts$Machine" (148 : Nat) ({ cls := "MakerStarts$Machine", name := "spend", desc := "()V" } : Jvm.MethodName)) ∈ TB := inTB 1420 (by decide +kernel) (by decide +kernel)
theorem t_1422 : (Jvm.Cond.instanceMethod ({ cls := "MakerStarts$Machine", name := "spend", desc := "()V" } : Jvm.MethodName)) ∈ TB := inTB 1422 (by decide +kernel) (by decide +kernel)
theorem t_1423 : (Jvm.Cond.code ({ cls := "MakerStarts$Machine", name := "spend", desc := "()V" } : Jvm.MethodName) prog_6_method_22_code (2 : Nat) (Option.none : Option Jvm.ClassFile.FieldType)) ∈ TB := inTB 1423 (by decide +kernel) (by decide +kernel)
theorem dX4_countStep_0 : decode cX4_countStep 0 = .ok (.aload_n 0, 1) := by decide +kernel
theorem dX4_countStep_1 : decode cX4_countStep 1 = .ok (.getfield 28, 3) := by decide +kernel
theorem dX4_countStep_4 : decode cX4_countStep 4 = .ok (.bipush 120, 2) := by decide +kernel
theorem dX4_countStep_6 : decode cX4_countStep 6 = .ok (.if_icmp .ge 16, 3) := by decide +kernel
theorem dX4_countStep_9 : decode cX4_countStep 9 = .ok (.aload_n 0, 1) := by decide +kernel
theorem dX4_countStep_10 : decode cX4_countStep 10 = .ok (.dup, 1) := by decide +kernel
theorem dX4_countStep_11 : decode cX4_countStep 11 = .ok (.getfield 28, 3) := by decide +kernel
theorem dX4_countStep_14 : decode cX4_countStep 14 = .ok (.iconst 1, 1) := by decide +kernel
theorem dX4_countStep_15 : decode cX4_countStep 15 = .ok (.iadd, 1) := by decide +kernel
theorem dX4_countStep_16 : decode cX4_countStep 16 = .ok (.putfield 28, 3) := by decide +kernel
theorem dX4_countStep_19 : decode cX4_countStep 19 = .ok (.goto 7, 3) := by decide +kernel
theorem dX4_countStep_22 : decode cX4_countStep 22 = .ok (.aload_n 0, 1) := by decide +kernel
theorem dX4_countStep_23 : decode cX4_countStep 23 = .ok (.invokevirtual 148, 3) := by decide +kernel
theorem dX4_countStep_26 : decode cX4_countStep 26 = .ok (.return_, 1) := by decide +kernel
theorem dX7_form_0 : decode cX7_form 0 = .ok (.aload_n 0, 1) := by decide +kernel
theorem dX7_form_1 : decode cX7_form 1 = .ok (.getfield 41, 3) := by decide +kernel
theorem dX7_form_4 : decode cX7_form 4 = .ok (.iconst 2, 1) := by decide +kernel
theorem dX7_form_5 : decode cX7_form 5 = .ok (.iadd, 1) := by decide +kernel
theorem dX7_form_6 : decode cX7_form 6 = .ok (.sipush 2064, 3) := by decide +kernel
theorem dX7_form_9 : decode cX7_form 9 = .ok (.if_icmp .ge 47, 3) := by decide +kernel
theorem dX7_form_12 : decode cX7_form 12 = .ok (.aload_n 0, 1) := by decide +kernel
theorem dX7_form_13 : decode cX7_form 13 = .ok (.getfield 28, 3) := by decide +kernel
theorem dX7_form_16 : decode cX7_form 16 = .ok (.aload_n 0, 1) := by decide +kernel
theorem dX7_form_17 : decode cX7_form 17 = .ok (.getfield 41, 3) := by decide +kernel
theorem dX7_form_20 : decode cX7_form 20 = .ok (.iload_n 1, 1) := by decide +kernel
theorem dX7_form_21 : decode cX7_form 21 = .ok (.iastore, 1) := by decide +kernel
theorem dX7_form_22 : decode cX7_form 22 = .ok (.aload_n 0, 1) := by decide +kernel
theorem dX7_form_23 : decode cX7_form 23 = .ok (.getfield 28, 3) := by decide +kernel
theorem dX7_form_26 : decode cX7_form 26 = .ok (.aload_n 0, 1) := by decide +kernel
theorem dX7_form_27 : decode cX7_form 27 = .ok (.getfield 41, 3) := by decide +kernel
theorem dX7_form_30 : decode cX7_form 30 = .ok (.iconst 1, 1) := by decide +kernel
theorem dX7_form_31 : decode cX7_form 31 = .ok (.iadd, 1) := by decide +kernel
theorem dX7_form_32 : decode cX7_form 32 = .ok (.iload_n 2, 1) := by decide +kernel
theorem dX7_form_33 : decode cX7_form 33 = .ok (.iastore, 1) := by decide +kernel
theorem dX7_form_34 : decode cX7_form 34 = .ok (.aload_n 0, 1) := by decide +kernel
theorem dX7_form_35 : decode cX7_form 35 = .ok (.getfield 28, 3) := by decide +kernel
theorem dX7_form_38 : decode cX7_form 38 = .ok (.aload_n 0, 1) := by decide +kernel
theorem dX7_form_39 : decode cX7_form 39 = .ok (.getfield 41, 3) := by decide +kernel
theorem dX7_form_42 : decode cX7_form 42 = .ok (.iconst 2, 1) := by decide +kernel
theorem dX7_form_43 : decode cX7_form 43 = .ok (.iadd, 1) := by decide +kernel
theorem dX7_form_44 : decode cX7_form 44 = .ok (.iload_n 3, 1) := by decide +kernel
theorem dX7_form_45 : decode cX7_form 45 = .ok (.iastore, 1) := by decide +kernel
theorem dX7_form_46 : decode cX7_form 46 = .ok (.aload_n 0, 1) := by decide +kernel
theorem dX7_form_47 : decode cX7_form 47 = .ok (.dup, 1) := by decide +kernel
theorem dX7_form_48 : decode cX7_form 48 = .ok (.getfield 41, 3) := by decide +kernel
theorem dX7_form_51 : decode cX7_form 51 = .ok (.iconst 3, 1) := by decide +kernel
theorem dX7_form_52 : decode cX7_form 52 = .ok (.iadd, 1) := by decide +kernel
theorem dX7_form_53 : decode cX7_form 53 = .ok (.putfield 41, 3) := by decide +kernel
theorem dX7_form_56 : decode cX7_form 56 = .ok (.return_, 1) := by decide +kernel
set_option maxHeartbeats 4000000 in
set_option maxRecDepth 100000 in
theorem g_countStep (l : Launch) (D : va_G) (cy : Nat → ClassId) (sz : Nat) (h0 : Nat) (rtext : Nat) (rvalues : Nat) (rstates : Nat) (rmarks : Nat) (rstack : Nat) (rframes : Nat) (rlowest : Nat) (rnow : Nat) (imade : Int32) (isteps : Int32) (icalls : Int32) (ipc : Int32) (ilenient : Int32) (ileaving : Int32) (ileavingValue : Int32) (iover : Int32) (ianswer : Int32) (mk : Nat) (tp : Nat) (dp : Nat) (gf : Nat → Int32) : Met l yX4_countStep (.code yX4_countStep cX4_countStep 1 none :: TB) ({ frames := 1, cells := 0, slots := 0, locals := 21 }) (va_Pc [.ref h0] (fun U => U.heap.size = sz ∧ va_P D vwCl [(h0, .inr (4, [.ref rtext, .ref rvalues, .ref rstates, .ref rmarks, .int (nI mk), .int imade, .int isteps, .ref rstack, .int (nI tp), .ref rframes, .int (nI dp), .int icalls, .int ipc, .ref rlowest, .ref rnow, .int ilenient, .int ileaving, .int ileavingValue, .int iover, .int ianswer])), (rstates, .inl (cy 1, 8, .inl gf))] U.heap ∧ va_K D vwCl (TY cy) U ∧ va_D (fun _ => True) [(h0, .inr (4, [.ref rtext, .ref rvalues, .ref rstates, .ref rmarks, .int (nI mk), .int imade, .int isteps, .ref rstack, .int (nI tp), .ref rframes, .int (nI dp), .int icalls, .int ipc, .ref rlowest, .ref rnow, .int ilenient, .int ileaving, .int ileavingValue, .int iover, .int ianswer])), (rstates, .inl (cy 1, 8, .inl gf))])) (va_Qv (fun (u : Int32 × Int32 × Int32 × (Nat → Int32)) => True) (fun (u : Int32 × Int32 × Int32 × (Nat → Int32)) t => va_P D vwCl [(h0, .inr (4, [.ref rtext, .ref rvalues, .ref rstates, .ref rmarks, .int (nI mk), .int imade, .int u.1, .ref rstack, .int (nI tp), .ref rframes, .int (nI dp), .int icalls, .int ipc, .ref rlowest, .ref rnow, .int ilenient, .int ileaving, .int ileavingValue, .int u.2.1, .int u.2.2.1])), (rstates, .inl (cy 1, 8, .inl u.2.2.2))] t.heap ∧ va_D (va_A [(h0, .inr (4, [.ref rtext, .ref rvalues, .ref rstates, .ref rmarks, .int (nI mk), .int imade, .int isteps, .ref rstack, .int (nI tp), .ref rframes, .int (nI dp), .int icalls, .int ipc, .ref rlowest, .ref rnow, .int ilenient, .int ileaving, .int ileavingValue, .int iover, .int ianswer])), (rstates, .inl (cy 1, 8, .inl gf))] sz) [(h0, .inr (4, [.ref rtext, .ref rvalues, .ref rstates, .ref rmarks, .int (nI mk), .int imade, .int u.1, .ref rstack, .int (nI tp), .ref rframes, .int (nI dp), .int icalls, .int ipc, .ref rlowest, .ref rnow, .int ilenient, .int ileaving, .int ileavingValue, .int u.2.1, .int u.2.2.1])), (rstates, .inl (cy 1, 8, .inl u.2.2.2))]) (va_A [(h0, .inr (4, [.ref rtext, .ref rvalues, .ref rstates, .ref rmarks, .int (nI mk), .int imade, .int isteps, .ref rstack, .int (nI tp), .ref rframes, .int (nI dp), .int icalls, .int ipc, .ref rlowest, .ref rnow, .int ilenient, .int ileaving, .int ileavingValue, .int iover, .int ianswer])), (rstates, .inl (cy 1, 8, .inl gf))] sz)) 0 0 (va_A [(h0, .inr (4, [.ref rtext, .ref rvalues, .ref rstates, .ref rmarks, .int (nI mk), .int imade, .int isteps, .ref rstack, .int (nI tp), .ref rframes, .int (nI dp), .int icalls, .int ipc, .ref rlowest, .ref rnow, .int ilenient, .int ileaving, .int ileavingValue, .int iover, .int ianswer])), (rstates, .inl (cy 1, 8, .inl gf))] sz) := by
  refine Met.ofW (cc := cX4_countStep) (maxL := 1) (ret := none) (by decide) rfl ?_
  intro p e s m args below meth c s₁ B hml hv
  obtain ⟨rfl, hsz, hP, hK, hD0⟩ := hv
  have hx := B.exec
  have hb := B.bytes
  have hr := B.returns
  have hts := atoms_spec (ws := .code yX4_countStep cX4_countStep 1 none :: TB) B.pre
  have hT : ∀ w ∈ TB, w.before _ s = true := fun w h => hts w (List.mem_cons_of_mem _ h)
  have hown : s.vm.findClass "MakerStarts$Machine" = some m.cls := findClass_of_methodNamed B.named
  have hlocks := B.notSynchronized
  subst hsz
  have hD := hD0.self (sz := s.heap.size)
  generalize hAe : va_A [(h0, .inr (4, [.ref rtext, .ref rvalues, .ref rstates, .ref rmarks, .int (nI mk), .int imade, .int isteps, .ref rstack, .int (nI tp), .ref rframes, .int (nI dp), .int icalls, .int ipc, .ref rlowest, .ref rnow, .int ilenient, .int ileaving, .int ileavingValue, .int iover, .int ianswer])), (rstates, .inl (cy 1, 8, .inl gf))] s.heap.size = A at hD  ⊢
  have hA : ∀ q : Nat, s.heap.size ≤ q → A q := fun q h => by rw [← hAe]; exact Or.inr h
  have hS : va_S A s.heap s.heap [] := va_S.rf
  have hP : va_P D vwCl [(h0, .inr (4, [.ref rtext, .ref rvalues, .ref rstates, .ref rmarks, .int (nI mk), .int imade, .int isteps, .ref rstack, .int (nI tp), .ref rframes, .int (nI dp), .int icalls, .int ipc, .ref rlowest, .ref rnow, .int ilenient, .int ileaving, .int ileavingValue, .int iover, .int ianswer])), (rstates, .inl (cy 1, 8, .inl gf))] s.heap := hP
  have hl := lv_entry ([.ref h0]) (n := 1) (Nat.le_of_ble_eq_true rfl)
  rw [lg_entry_eq]
  generalize (lg_sl ([.ref h0]) ++ List.replicate (1 - (lg_sl ([.ref h0])).length) Slot.unset).toArray = ls at hl ⊢
  have hl : lv_has ls 1 [(0, .ref h0)] := hl
  refine lv_aload_n hx hb dX4_countStep_0 rfl (lv_at hl 0 rfl) ?_
  refine va_get (D := D) (ci := 4) (v := .int isteps) (C := RX4) (T := TX4) (N := 20) hx hb hT i_TX4 hown hK hP 0 rfl rfl 6 (by decide) (hT _ t_477) (fun _ h9 => h9) rfl dX4_countStep_1 ?_
  refine lv_bipush (v := 120) hx hb dX4_countStep_4 (by decide) ?_
  refine lv_icmp_ge (tgt := 22) hx hb dX4_countStep_6 (by decide) (fun c1 => ?_) (fun c1 => ?_)
  · refine lv_aload_n hx hb dX4_countStep_22 rfl (lv_at hl 0 rfl) ?_
    have hPc := hP.sub (ws' := [(h0, .inr (4, [.ref rtext, .ref rvalues, .ref rstates, .ref rmarks, .int (nI mk), .int imade, .int isteps, .ref rstack, .int (nI tp), .ref rframes, .int (nI dp), .int icalls, .int ipc, .ref rlowest, .ref rnow, .int ilenient, .int ileaving, .int ileavingValue, .int iover, .int ianswer])), (rstates, .inl (cy 1, 8, .inl gf))]) [0, 1] rfl
    have hDc := hD.sub (ws' := [(h0, .inr (4, [.ref rtext, .ref rvalues, .ref rstates, .ref rmarks, .int (nI mk), .int imade, .int isteps, .ref rstack, .int (nI tp), .ref rframes, .int (nI dp), .int icalls, .int ipc, .ref rlowest, .ref rnow, .int ilenient, .int ileaving, .int ileavingValue, .int iover, .int ianswer])), (rstates, .inl (cy 1, 8, .inl gf))]) [0, 1] (by decide) rfl
    have hFc := va_free (wc := [(h0, .inr (4, [.ref rtext, .ref rvalues, .ref rstates, .ref rmarks, .int (nI mk), .int imade, .int isteps, .ref rstack, .int (nI tp), .ref rframes, .int (nI dp), .int icalls, .int ipc, .ref rlowest, .ref rnow, .int ilenient, .int ileaving, .int ileavingValue, .int iover, .int ianswer])), (rstates, .inl (cy 1, 8, .inl gf))]) hD hS hA [0, 1] rfl
    refine va_callv (va_runV (As := []) (rest := []) ⟨hx, hb, hml, hown, hT⟩ (g_spend l D cy s.heap.size h0 rtext rvalues rstates rmarks rstack rframes rlowest rnow imade isteps icalls ipc ilenient ileaving ileavingValue iover ianswer mk tp dp gf) (cwV 0 hT (gTBV t_1420 t_1422 t_50 t_151 t_1423) rfl rfl rfl (by decide +kernel) ⟨Nat.le_of_ble_eq_true rfl, Nat.le_of_ble_eq_true rfl⟩) ⟨fun a U g mk q => by obtain ⟨q0, q1, qP, qK, qD⟩ := q; exact ⟨q0, q1, qP, va_K.moved (u := U) (U := U.calling g mk a) (Vm.Alike.refl U.vm) qK, qD⟩, va_recv hK hPc (ci := 4) (q0 := 0) rfl rfl, fun U hU hW => ⟨rfl, by rw [hU], by rw [hU]; exact hPc, va_K.moved hW.alike hK, hDc.weaken (fun _ _ _ _ => trivial)⟩⟩ rfl rfl hl.1 rfl (lv_room (Nat.le_of_ble_eq_true rfl)) dX4_countStep_23 ⟨Nat.le_of_ble_eq_true rfl, Nat.le_of_ble_eq_true rfl⟩) hS (fun q _ h => hFc q h) hFc (fun  u t H1 locs ht hvm w2 hB hz1 hk1 hS => ?_)
    obtain ⟨k3, rfl⟩ : ∃ z, z = u := ⟨_, rfl⟩
    obtain ⟨hP1, hD1⟩ := hB
    rw [ht] at hP1
    obtain ⟨hP, hD⟩ := va_join (wr := []) (w1 := [(h0, .inr (4, [.ref rtext, .ref rvalues, .ref rstates, .ref rmarks, .int (nI mk), .int imade, .int isteps, .ref rstack, .int (nI tp), .ref rframes, .int (nI dp), .int icalls, .int ipc, .ref rlowest, .ref rnow, .int ilenient, .int ileaving, .int ileavingValue, .int 1, .int 12])), (rstates, .inl (cy 1, 8, .inl k3))]) hP hD [0, 1] [] rfl rfl (by decide) (by decide) hk1 hFc hP1 hD1
    generalize H1 = H at hP hS ⊢
    have hP : va_P D vwCl [(h0, .inr (4, [.ref rtext, .ref rvalues, .ref rstates, .ref rmarks, .int (nI mk), .int imade, .int isteps, .ref rstack, .int (nI tp), .ref rframes, .int (nI dp), .int icalls, .int ipc, .ref rlowest, .ref rnow, .int ilenient, .int ileaving, .int ileavingValue, .int 1, .int 12])), (rstates, .inl (cy 1, 8, .inl k3))] H := hP
    have hD : va_D A [(h0, .inr (4, [.ref rtext, .ref rvalues, .ref rstates, .ref rmarks, .int (nI mk), .int imade, .int isteps, .ref rstack, .int (nI tp), .ref rframes, .int (nI dp), .int icalls, .int ipc, .ref rlowest, .ref rnow, .int ilenient, .int ileaving, .int ileavingValue, .int 1, .int 12])), (rstates, .inl (cy 1, 8, .inl k3))] := hD
    have hP9 := hP.sub (ws' := [(h0, .inr (4, [.ref rtext, .ref rvalues, .ref rstates, .ref rmarks, .int (nI mk), .int imade, .int isteps, .ref rstack, .int (nI tp), .ref rframes, .int (nI dp), .int icalls, .int ipc, .ref rlowest, .ref rnow, .int ilenient, .int ileaving, .int ileavingValue, .int 1, .int 12])), (rstates, .inl (cy 1, 8, .inl k3))]) [0, 1] rfl
    have hD9 := hD.sub (ws' := [(h0, .inr (4, [.ref rtext, .ref rvalues, .ref rstates, .ref rmarks, .int (nI mk), .int imade, .int isteps, .ref rstack, .int (nI tp), .ref rframes, .int (nI dp), .int icalls, .int ipc, .ref rlowest, .ref rnow, .int ilenient, .int ileaving, .int ileavingValue, .int 1, .int 12])), (rstates, .inl (cy 1, 8, .inl k3))]) [0, 1] (by decide) rfl
    refine W.widen (k := 0) (n := 0) (Nat.le_of_ble_eq_true rfl) (Nat.le_of_ble_eq_true rfl) ?_
    exact W.vret hx hb hr (fun t ht hW => ⟨⟨(isteps, 1, 12, k3), rfl, trivial, by rw [ht]; exact hP9, hD9⟩, hS.F ht⟩) hS.2.2 dX4_countStep_26
  · refine lv_aload_n hx hb dX4_countStep_9 rfl (lv_at hl 0 rfl) ?_
    refine lv_dup hx hb dX4_countStep_10 rfl ?_
    refine va_get (D := D) (ci := 4) (v := .int isteps) (C := RX4) (T := TX4) (N := 20) hx hb hT i_TX4 hown hK hP 0 rfl rfl 6 (by decide) (hT _ t_477) (fun _ h9 => h9) rfl dX4_countStep_11 ?_
    refine lv_iconst (v := 1) hx hb dX4_countStep_14 (by decide) ?_
    refine lv_iadd hx hb dX4_countStep_15 ?_
    refine lv_topi (fun z4 e5 => ?_)
    refine va_put (D := D) (ci := 4) (v := .int z4) (ty := .int) (C := RX4) (T := TX4) (N := 20) hx hb hT i_TX4 tyX4 tyX4_ok nmX4 hown hK hP hD hS 0 rfl rfl 6 (by decide) (hT _ t_477) (fun _ h9 => h9) rfl (by decide +kernel) rfl rfl (Nat.le_of_ble_eq_true rfl) dX4_countStep_16 (fun H locs hP hD hS => ?_)
    have hP : va_P D vwCl [(h0, .inr (4, [.ref rtext, .ref rvalues, .ref rstates, .ref rmarks, .int (nI mk), .int imade, .int z4, .ref rstack, .int (nI tp), .ref rframes, .int (nI dp), .int icalls, .int ipc, .ref rlowest, .ref rnow, .int ilenient, .int ileaving, .int ileavingValue, .int iover, .int ianswer])), (rstates, .inl (cy 1, 8, .inl gf))] H := hP
    have hD : va_D A [(h0, .inr (4, [.ref rtext, .ref rvalues, .ref rstates, .ref rmarks, .int (nI mk), .int imade, .int z4, .ref rstack, .int (nI tp), .ref rframes, .int (nI dp), .int icalls, .int ipc, .ref rlowest, .ref rnow, .int ilenient, .int ileaving, .int ileavingValue, .int iover, .int ianswer])), (rstates, .inl (cy 1, 8, .inl gf))] := hD
    refine lv_goto (tgt := 26) hx hb dX4_countStep_19 (by decide) ?_
    have hP9 := hP.sub (ws' := [(h0, .inr (4, [.ref rtext, .ref rvalues, .ref rstates, .ref rmarks, .int (nI mk), .int imade, .int z4, .ref rstack, .int (nI tp), .ref rframes, .int (nI dp), .int icalls, .int ipc, .ref rlowest, .ref rnow, .int ilenient, .int ileaving, .int ileavingValue, .int iover, .int ianswer])), (rstates, .inl (cy 1, 8, .inl gf))]) [0, 1] rfl
    have hD9 := hD.sub (ws' := [(h0, .inr (4, [.ref rtext, .ref rvalues, .ref rstates, .ref rmarks, .int (nI mk), .int imade, .int z4, .ref rstack, .int (nI tp), .ref rframes, .int (nI dp), .int icalls, .int ipc, .ref rlowest, .ref rnow, .int ilenient, .int ileaving, .int ileavingValue, .int iover, .int ianswer])), (rstates, .inl (cy 1, 8, .inl gf))]) [0, 1] (by decide) rfl
    refine W.widen (k := 0) (n := 0) (Nat.le_of_ble_eq_true rfl) (Nat.le_of_ble_eq_true rfl) ?_
    exact W.vret hx hb hr (fun t ht hW => ⟨⟨(z4, iover, ianswer, gf), rfl, trivial, by rw [ht]; exact hP9, hD9⟩, hS.F ht⟩) hS.2.2 dX4_countStep_26

set_option maxHeartbeats 4000000 in
set_option maxRecDepth 100000 in
theorem g_form (l : Launch) (D : va_G) (cy : Nat → ClassId) (sz : Nat) (h0 : Nat) (a1 : Nat) (a2 : Nat) (a3 : Nat) (a4 : Nat) (ct : Int32) (z1 : Nat) (z2 : Nat) (fa : Int32) (fp : Int32) (cf : Nat → Int32) (sf : Nat → Int32) (p0 : Int32) (p1 : Int32) (p2 : Int32) (hz1 : z1 ≤ 4288) (hz2 : z2 ≤ 2064) : Met l yX7_form (.code yX7_form cX7_form 4 none :: TB) ({ frames := 0, cells := 0, slots := 0, locals := 0 }) (va_Pc [.ref h0, .int p0, .int p1, .int p2] (fun U => U.heap.size = sz ∧ va_P D vwCl [(h0, .inr (7, [.ref a1, .int ct, .ref a2, .ref a3, .int (nI z1), .ref a4, .int (nI z2), .int fa, .int fp])), (a4, .inl (cy 1, 2064, .inl sf))] U.heap ∧ va_K D vwCl (TY cy) U ∧ va_D (fun _ => True) [(h0, .inr (7, [.ref a1, .int ct, .ref a2, .ref a3, .int (nI z1), .ref a4, .int (nI z2), .int fa, .int fp])), (a4, .inl (cy 1, 2064, .inl sf))])) (va_Qv (fun (u : Nat × (Nat → Int32)) => u.1 ≤ 2064) (fun (u : Nat × (Nat → Int32)) t => va_P D vwCl [(h0, .inr (7, [.ref a1, .int ct, .ref a2, .ref a3, .int (nI z1), .ref a4, .int (nI u.1), .int fa, .int fp])), (a4, .inl (cy 1, 2064, .inl u.2))] t.heap ∧ va_D (va_A [(h0, .inr (7, [.ref a1, .int ct, .ref a2, .ref a3, .int (nI z1), .ref a4, .int (nI z2), .int fa, .int fp])), (a4, .inl (cy 1, 2064, .inl sf))] sz) [(h0, .inr (7, [.ref a1, .int ct, .ref a2, .ref a3, .int (nI z1), .ref a4, .int (nI u.1), .int fa, .int fp])), (a4, .inl (cy 1, 2064, .inl u.2))]) (va_A [(h0, .inr (7, [.ref a1, .int ct, .ref a2, .ref a3, .int (nI z1), .ref a4, .int (nI z2), .int fa, .int fp])), (a4, .inl (cy 1, 2064, .inl sf))] sz)) 0 0 (va_A [(h0, .inr (7, [.ref a1, .int ct, .ref a2, .ref a3, .int (nI z1), .ref a4, .int (nI z2), .int fa, .int fp])), (a4, .inl (cy 1, 2064, .inl sf))] sz) := by
  refine Met.ofW (cc := cX7_form) (maxL := 4) (ret := none) (by decide) rfl ?_
  intro p e s m args below meth c s₁ B hml hv
  obtain ⟨rfl, hsz, hP, hK, hD0⟩ := hv
  have hx := B.exec
  have hb := B.bytes
  have hr := B.returns
  have hts := atoms_spec (ws := .code yX7_form cX7_form 4 none :: TB) B.pre
  have hT : ∀ w ∈ TB, w.before _ s = true := fun w h => hts w (List.mem_cons_of_mem _ h)
  have hown : s.vm.findClass "MakerStarts$Text" = some m.cls := findClass_of_methodNamed B.named
  have hlocks := B.notSynchronized
  subst hsz
  have hD := hD0.self (sz := s.heap.size)
  generalize hAe : va_A [(h0, .inr (7, [.ref a1, .int ct, .ref a2, .ref a3, .int (nI z1), .ref a4, .int (nI z2), .int fa, .int fp])), (a4, .inl (cy 1, 2064, .inl sf))] s.heap.size = A at hD  ⊢
  have hA : ∀ q : Nat, s.heap.size ≤ q → A q := fun q h => by rw [← hAe]; exact Or.inr h
  have hS : va_S A s.heap s.heap [] := va_S.rf
  have hP : va_P D vwCl [(h0, .inr (7, [.ref a1, .int ct, .ref a2, .ref a3, .int (nI z1), .ref a4, .int (nI z2), .int fa, .int fp])), (a4, .inl (cy 1, 2064, .inl sf))] s.heap := hP
  have hl := lv_entry ([.ref h0, .int p0, .int p1, .int p2]) (n := 4) (Nat.le_of_ble_eq_true rfl)
  rw [lg_entry_eq]
  generalize (lg_sl ([.ref h0, .int p0, .int p1, .int p2]) ++ List.replicate (4 - (lg_sl ([.ref h0, .int p0, .int p1, .int p2])).length) Slot.unset).toArray = ls at hl ⊢
  have hl : lv_has ls 4 [(0, .ref h0), (1, .int p0), (2, .int p1), (3, .int p2)] := hl
  refine lv_aload_n hx hb dX7_form_0 rfl (lv_at hl 0 rfl) ?_
  refine va_get (D := D) (ci := 7) (v := .int (nI z2)) (C := RX7) (T := TX7) (N := 9) hx hb hT i_TX7 hown hK hP 0 rfl rfl 6 (by decide) (hT _ t_226) (fun _ h9 => h9) rfl dX7_form_1 ?_
  refine lv_iconst (v := 2) hx hb dX7_form_4 (by decide) ?_
  refine lv_iadd hx hb dX7_form_5 ?_
  refine lv_topi (fun z1 e2 => ?_)
  obtain rfl : z1 = nI (z2 + 2) := e2.trans (nI_add z2 2)
  refine lv_sipush (v := 2064) hx hb dX7_form_6 (by decide) ?_
  refine lv_icmp_ge (tgt := 56) hx hb dX7_form_9 (by decide) (fun c3 => ?_) (fun c3 => ?_)
  · have hP9 := hP.sub (ws' := [(h0, .inr (7, [.ref a1, .int ct, .ref a2, .ref a3, .int (nI z1), .ref a4, .int (nI z2), .int fa, .int fp])), (a4, .inl (cy 1, 2064, .inl sf))]) [0, 1] rfl
    have hD9 := hD.sub (ws' := [(h0, .inr (7, [.ref a1, .int ct, .ref a2, .ref a3, .int (nI z1), .ref a4, .int (nI z2), .int fa, .int fp])), (a4, .inl (cy 1, 2064, .inl sf))]) [0, 1] (by decide) rfl
    refine W.widen (k := 0) (n := 0) (Nat.le_of_ble_eq_true rfl) (Nat.le_of_ble_eq_true rfl) ?_
    exact W.vret hx hb hr (fun t ht hW => ⟨⟨(z2, sf), rfl, hz2, by rw [ht]; exact hP9, hD9⟩, hS.F ht⟩) hS.2.2 dX7_form_56
  · have hlt : z2 + 2 < 2064 := by
      rcases Nat.lt_or_ge (z2 + 2) 2064 with q | q
      · exact q
      · exact absurd (nI_le (a := 2064) (b := z2 + 2) q (by omega)) c3
    refine lv_aload_n hx hb dX7_form_12 rfl (lv_at hl 0 rfl) ?_
    refine va_get (D := D) (ci := 7) (v := .ref a4) (C := RX7) (T := TX7) (N := 9) hx hb hT i_TX7 hown hK hP 0 rfl rfl 5 (by decide) (hT _ t_225) (fun _ h9 => h9) rfl dX7_form_13 ?_
    refine lv_aload_n hx hb dX7_form_16 rfl (lv_at hl 0 rfl) ?_
    refine va_get (D := D) (ci := 7) (v := .int (nI z2)) (C := RX7) (T := TX7) (N := 9) hx hb hT i_TX7 hown hK hP 0 rfl rfl 6 (by decide) (hT _ t_226) (fun _ h9 => h9) rfl dX7_form_17 ?_
    refine lv_iload_n hx hb dX7_form_20 rfl (lv_at hl 1 rfl) ?_
    refine va_iast hx hb hK hP hD hS 1 1 rfl rfl (vp_in_nI (by omega) (by decide)) dX7_form_21 (fun H locs hP hD hS => ?_)
    have hP : va_P D vwCl [(h0, .inr (7, [.ref a1, .int ct, .ref a2, .ref a3, .int (nI z1), .ref a4, .int (nI z2), .int fa, .int fp])), (a4, .inl (cy 1, 2064, .inl (upd sf ((nI z2) : Int32).toNatClampNeg p0)))] H := hP
    have hD : va_D A [(h0, .inr (7, [.ref a1, .int ct, .ref a2, .ref a3, .int (nI z1), .ref a4, .int (nI z2), .int fa, .int fp])), (a4, .inl (cy 1, 2064, .inl (upd sf ((nI z2) : Int32).toNatClampNeg p0)))] := hD
    generalize hff4 : (upd sf ((nI z2) : Int32).toNatClampNeg p0) = f4 at hP hD
    refine lv_aload_n hx hb dX7_form_22 rfl (lv_at hl 0 rfl) ?_
    refine va_get (D := D) (ci := 7) (v := .ref a4) (C := RX7) (T := TX7) (N := 9) hx hb hT i_TX7 hown hK hP 0 rfl rfl 5 (by decide) (hT _ t_225) (fun _ h9 => h9) rfl dX7_form_23 ?_
    refine lv_aload_n hx hb dX7_form_26 rfl (lv_at hl 0 rfl) ?_
    refine va_get (D := D) (ci := 7) (v := .int (nI z2)) (C := RX7) (T := TX7) (N := 9) hx hb hT i_TX7 hown hK hP 0 rfl rfl 6 (by decide) (hT _ t_226) (fun _ h9 => h9) rfl dX7_form_27 ?_
    refine lv_iconst (v := 1) hx hb dX7_form_30 (by decide) ?_
    refine lv_iadd hx hb dX7_form_31 ?_
    refine lv_topi (fun z5 e6 => ?_)
    obtain rfl : z5 = nI (z2 + 1) := e6.trans (nI_add z2 1)
    refine lv_iload_n hx hb dX7_form_32 rfl (lv_at hl 2 rfl) ?_
    refine va_iast hx hb hK hP hD hS 1 1 rfl rfl (vp_in_nI (by omega) (by decide)) dX7_form_33 (fun H locs hP hD hS => ?_)
    have hP : va_P D vwCl [(h0, .inr (7, [.ref a1, .int ct, .ref a2, .ref a3, .int (nI z1), .ref a4, .int (nI z2), .int fa, .int fp])), (a4, .inl (cy 1, 2064, .inl (upd f4 ((nI (z2 + 1)) : Int32).toNatClampNeg p1)))] H := hP
    have hD : va_D A [(h0, .inr (7, [.ref a1, .int ct, .ref a2, .ref a3, .int (nI z1), .ref a4, .int (nI z2), .int fa, .int fp])), (a4, .inl (cy 1, 2064, .inl (upd f4 ((nI (z2 + 1)) : Int32).toNatClampNeg p1)))] := hD
    generalize hff7 : (upd f4 ((nI (z2 + 1)) : Int32).toNatClampNeg p1) = f7 at hP hD
    refine lv_aload_n hx hb dX7_form_34 rfl (lv_at hl 0 rfl) ?_
    refine va_get (D := D) (ci := 7) (v := .ref a4) (C := RX7) (T := TX7) (N := 9) hx hb hT i_TX7 hown hK hP 0 rfl rfl 5 (by decide) (hT _ t_225) (fun _ h9 => h9) rfl dX7_form_35 ?_
    refine lv_aload_n hx hb dX7_form_38 rfl (lv_at hl 0 rfl) ?_
    refine va_get (D := D) (ci := 7) (v := .int (nI z2)) (C := RX7) (T := TX7) (N := 9) hx hb hT i_TX7 hown hK hP 0 rfl rfl 6 (by decide) (hT _ t_226) (fun _ h9 => h9) rfl dX7_form_39 ?_
    refine lv_iconst (v := 2) hx hb dX7_form_42 (by decide) ?_
    refine lv_iadd hx hb dX7_form_43 ?_
    refine lv_topi (fun z8 e9 => ?_)
    obtain rfl : z8 = nI (z2 + 2) := e9.trans (nI_add z2 2)
    refine lv_iload_n hx hb dX7_form_44 rfl (lv_at hl 3 rfl) ?_
    refine va_iast hx hb hK hP hD hS 1 1 rfl rfl (vp_in_nI (by omega) (by decide)) dX7_form_45 (fun H locs hP hD hS => ?_)
    have hP : va_P D vwCl [(h0, .inr (7, [.ref a1, .int ct, .ref a2, .ref a3, .int (nI z1), .ref a4, .int (nI z2), .int fa, .int fp])), (a4, .inl (cy 1, 2064, .inl (upd f7 ((nI (z2 + 2)) : Int32).toNatClampNeg p2)))] H := hP
    have hD : va_D A [(h0, .inr (7, [.ref a1, .int ct, .ref a2, .ref a3, .int (nI z1), .ref a4, .int (nI z2), .int fa, .int fp])), (a4, .inl (cy 1, 2064, .inl (upd f7 ((nI (z2 + 2)) : Int32).toNatClampNeg p2)))] := hD
    generalize hff10 : (upd f7 ((nI (z2 + 2)) : Int32).toNatClampNeg p2) = f10 at hP hD
    refine lv_aload_n hx hb dX7_form_46 rfl (lv_at hl 0 rfl) ?_
    refine lv_dup hx hb dX7_form_47 rfl ?_
    refine va_get (D := D) (ci := 7) (v := .int (nI z2)) (C := RX7) (T := TX7) (N := 9) hx hb hT i_TX7 hown hK hP 0 rfl rfl 6 (by decide) (hT _ t_226) (fun _ h9 => h9) rfl dX7_form_48 ?_
    refine lv_iconst (v := 3) hx hb dX7_form_51 (by decide) ?_
    refine lv_iadd hx hb dX7_form_52 ?_
    refine lv_topi (fun z11 e12 => ?_)
    obtain rfl : z11 = nI (z2 + 3) := e12.trans (nI_add z2 3)
    refine va_put (D := D) (ci := 7) (v := .int (nI (z2 + 3))) (ty := .int) (C := RX7) (T := TX7) (N := 9) hx hb hT i_TX7 tyX7 tyX7_ok nmX7 hown hK hP hD hS 0 rfl rfl 6 (by decide) (hT _ t_226) (fun _ h9 => h9) rfl (by decide +kernel) rfl rfl (Nat.le_of_ble_eq_true rfl) dX7_form_53 (fun H locs hP hD hS => ?_)
    have hP : va_P D vwCl [(h0, .inr (7, [.ref a1, .int ct, .ref a2, .ref a3, .int (nI z1), .ref a4, .int (nI (z2 + 3)), .int fa, .int fp])), (a4, .inl (cy 1, 2064, .inl f10))] H := hP
    have hD : va_D A [(h0, .inr (7, [.ref a1, .int ct, .ref a2, .ref a3, .int (nI z1), .ref a4, .int (nI (z2 + 3)), .int fa, .int fp])), (a4, .inl (cy 1, 2064, .inl f10))] := hD
    have hP9 := hP.sub (ws' := [(h0, .inr (7, [.ref a1, .int ct, .ref a2, .ref a3, .int (nI z1), .ref a4, .int (nI (z2 + 3)), .int fa, .int fp])), (a4, .inl (cy 1, 2064, .inl f10))]) [0, 1] rfl
    have hD9 := hD.sub (ws' := [(h0, .inr (7, [.ref a1, .int ct, .ref a2, .ref a3, .int (nI z1), .ref a4, .int (nI (z2 + 3)), .int fa, .int fp])), (a4, .inl (cy 1, 2064, .inl f10))]) [0, 1] (by decide) rfl
    refine W.widen (k := 0) (n := 0) (Nat.le_of_ble_eq_true rfl) (Nat.le_of_ble_eq_true rfl) ?_
    exact W.vret hx hb hr (fun t ht hW => ⟨⟨((z2 + 3), f10), rfl, (show z2 + 3 ≤ 2064 by omega), by rw [ht]; exact hP9, hD9⟩, hS.F ht⟩) hS.2.2 dX7_form_56
