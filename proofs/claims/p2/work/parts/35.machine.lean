theorem dX4_keepMark_0 : decode cX4_keepMark 0 = .ok (.aload_n 0, 1) := by decide +kernel
theorem dX4_keepMark_1 : decode cX4_keepMark 1 = .ok (.getfield 21, 3) := by decide +kernel
theorem dX4_keepMark_4 : decode cX4_keepMark 4 = .ok (.sipush 200, 3) := by decide +kernel
theorem dX4_keepMark_7 : decode cX4_keepMark 7 = .ok (.if_icmp .ge 23, 3) := by decide +kernel
theorem dX4_keepMark_10 : decode cX4_keepMark 10 = .ok (.aload_n 0, 1) := by decide +kernel
theorem dX4_keepMark_11 : decode cX4_keepMark 11 = .ok (.getfield 18, 3) := by decide +kernel
theorem dX4_keepMark_14 : decode cX4_keepMark 14 = .ok (.aload_n 0, 1) := by decide +kernel
theorem dX4_keepMark_15 : decode cX4_keepMark 15 = .ok (.getfield 21, 3) := by decide +kernel
theorem dX4_keepMark_18 : decode cX4_keepMark 18 = .ok (.iload_n 1, 1) := by decide +kernel
theorem dX4_keepMark_19 : decode cX4_keepMark 19 = .ok (.iastore, 1) := by decide +kernel
theorem dX4_keepMark_20 : decode cX4_keepMark 20 = .ok (.aload_n 0, 1) := by decide +kernel
theorem dX4_keepMark_21 : decode cX4_keepMark 21 = .ok (.dup, 1) := by decide +kernel
theorem dX4_keepMark_22 : decode cX4_keepMark 22 = .ok (.getfield 21, 3) := by decide +kernel
theorem dX4_keepMark_25 : decode cX4_keepMark 25 = .ok (.iconst 1, 1) := by decide +kernel
theorem dX4_keepMark_26 : decode cX4_keepMark 26 = .ok (.iadd, 1) := by decide +kernel
theorem dX4_keepMark_27 : decode cX4_keepMark 27 = .ok (.putfield 21, 3) := by decide +kernel
theorem dX4_keepMark_30 : decode cX4_keepMark 30 = .ok (.return_, 1) := by decide +kernel
theorem dX4_leaveWith_0 : decode cX4_leaveWith 0 = .ok (.aload_n 0, 1) := by decide +kernel
theorem dX4_leaveWith_1 : decode cX4_leaveWith 1 = .ok (.iload_n 1, 1) := by decide +kernel
theorem dX4_leaveWith_2 : decode cX4_leaveWith 2 = .ok (.putfield 64, 3) := by decide +kernel
theorem dX4_leaveWith_5 : decode cX4_leaveWith 5 = .ok (.aload_n 0, 1) := by decide +kernel
theorem dX4_leaveWith_6 : decode cX4_leaveWith 6 = .ok (.iload_n 2, 1) := by decide +kernel
theorem dX4_leaveWith_7 : decode cX4_leaveWith 7 = .ok (.putfield 67, 3) := by decide +kernel
theorem dX4_leaveWith_10 : decode cX4_leaveWith 10 = .ok (.return_, 1) := by decide +kernel
theorem dX4_pop_0 : decode cX4_pop 0 = .ok (.aload_n 0, 1) := by decide +kernel
theorem dX4_pop_1 : decode cX4_pop 1 = .ok (.getfield 34, 3) := by decide +kernel
theorem dX4_pop_4 : decode cX4_pop 4 = .ok (.iconst 1, 1) := by decide +kernel
theorem dX4_pop_5 : decode cX4_pop 5 = .ok (.if_icmp .ge 5, 3) := by decide +kernel
theorem dX4_pop_8 : decode cX4_pop 8 = .ok (.iconst 0, 1) := by decide +kernel
theorem dX4_pop_9 : decode cX4_pop 9 = .ok (.ireturn, 1) := by decide +kernel
theorem dX4_pop_10 : decode cX4_pop 10 = .ok (.aload_n 0, 1) := by decide +kernel
theorem dX4_pop_11 : decode cX4_pop 11 = .ok (.dup, 1) := by decide +kernel
theorem dX4_pop_12 : decode cX4_pop 12 = .ok (.getfield 34, 3) := by decide +kernel
theorem dX4_pop_15 : decode cX4_pop 15 = .ok (.iconst 1, 1) := by decide +kernel
theorem dX4_pop_16 : decode cX4_pop 16 = .ok (.isub, 1) := by decide +kernel
theorem dX4_pop_17 : decode cX4_pop 17 = .ok (.putfield 34, 3) := by decide +kernel
theorem dX4_pop_20 : decode cX4_pop 20 = .ok (.aload_n 0, 1) := by decide +kernel
theorem dX4_pop_21 : decode cX4_pop 21 = .ok (.getfield 31, 3) := by decide +kernel
theorem dX4_pop_24 : decode cX4_pop 24 = .ok (.aload_n 0, 1) := by decide +kernel
theorem dX4_pop_25 : decode cX4_pop 25 = .ok (.getfield 34, 3) := by decide +kernel
theorem dX4_pop_28 : decode cX4_pop 28 = .ok (.iaload, 1) := by decide +kernel
theorem dX4_pop_29 : decode cX4_pop 29 = .ok (.ireturn, 1) := by decide +kernel
theorem dX4_push_0 : decode cX4_push 0 = .ok (.aload_n 0, 1) := by decide +kernel
theorem dX4_push_1 : decode cX4_push 1 = .ok (.getfield 34, 3) := by decide +kernel
theorem dX4_push_4 : decode cX4_push 4 = .ok (.sipush 1200, 3) := by decide +kernel
theorem dX4_push_7 : decode cX4_push 7 = .ok (.if_icmp .ge 23, 3) := by decide +kernel
theorem dX4_push_10 : decode cX4_push 10 = .ok (.aload_n 0, 1) := by decide +kernel
theorem dX4_push_11 : decode cX4_push 11 = .ok (.getfield 31, 3) := by decide +kernel
theorem dX4_push_14 : decode cX4_push 14 = .ok (.aload_n 0, 1) := by decide +kernel
theorem dX4_push_15 : decode cX4_push 15 = .ok (.getfield 34, 3) := by decide +kernel
theorem dX4_push_18 : decode cX4_push 18 = .ok (.iload_n 1, 1) := by decide +kernel
theorem dX4_push_19 : decode cX4_push 19 = .ok (.iastore, 1) := by decide +kernel
theorem dX4_push_20 : decode cX4_push 20 = .ok (.aload_n 0, 1) := by decide +kernel
theorem dX4_push_21 : decode cX4_push 21 = .ok (.dup, 1) := by decide +kernel
theorem dX4_push_22 : decode cX4_push 22 = .ok (.getfield 34, 3) := by decide +kernel
theorem dX4_push_25 : decode cX4_push 25 = .ok (.iconst 1, 1) := by decide +kernel
theorem dX4_push_26 : decode cX4_push 26 = .ok (.iadd, 1) := by decide +kernel
theorem dX4_push_27 : decode cX4_push 27 = .ok (.putfield 34, 3) := by decide +kernel
theorem dX4_push_30 : decode cX4_push 30 = .ok (.return_, 1) := by decide +kernel
theorem dX4_spend_0 : decode cX4_spend 0 = .ok (.aload_n 0, 1) := by decide +kernel
theorem dX4_spend_1 : decode cX4_spend 1 = .ok (.iconst 1, 1) := by decide +kernel
theorem dX4_spend_2 : decode cX4_spend 2 = .ok (.putfield 70, 3) := by decide +kernel
theorem dX4_spend_5 : decode cX4_spend 5 = .ok (.aload_n 0, 1) := by decide +kernel
theorem dX4_spend_6 : decode cX4_spend 6 = .ok (.bipush 12, 2) := by decide +kernel
theorem dX4_spend_8 : decode cX4_spend 8 = .ok (.putfield 73, 3) := by decide +kernel
theorem dX4_spend_11 : decode cX4_spend 11 = .ok (.iconst 0, 1) := by decide +kernel
theorem dX4_spend_12 : decode cX4_spend 12 = .ok (.istore_n 1, 1) := by decide +kernel
theorem dX4_spend_13 : decode cX4_spend 13 = .ok (.iload_n 1, 1) := by decide +kernel
theorem dX4_spend_14 : decode cX4_spend 14 = .ok (.bipush 8, 2) := by decide +kernel
theorem dX4_spend_16 : decode cX4_spend 16 = .ok (.if_icmp .ge 26, 3) := by decide +kernel
theorem dX4_spend_19 : decode cX4_spend 19 = .ok (.aload_n 0, 1) := by decide +kernel
theorem dX4_spend_20 : decode cX4_spend 20 = .ok (.getfield 15, 3) := by decide +kernel
theorem dX4_spend_23 : decode cX4_spend 23 = .ok (.iload_n 1, 1) := by decide +kernel
theorem dX4_spend_24 : decode cX4_spend 24 = .ok (.iaload, 1) := by decide +kernel
theorem dX4_spend_25 : decode cX4_spend 25 = .ok (.iconst 3, 1) := by decide +kernel
theorem dX4_spend_26 : decode cX4_spend 26 = .ok (.if_icmp .ne 10, 3) := by decide +kernel
theorem dX4_spend_29 : decode cX4_spend 29 = .ok (.aload_n 0, 1) := by decide +kernel
theorem dX4_spend_30 : decode cX4_spend 30 = .ok (.getfield 15, 3) := by decide +kernel
theorem dX4_spend_33 : decode cX4_spend 33 = .ok (.iload_n 1, 1) := by decide +kernel
theorem dX4_spend_34 : decode cX4_spend 34 = .ok (.iconst 2, 1) := by decide +kernel
theorem dX4_spend_35 : decode cX4_spend 35 = .ok (.iastore, 1) := by decide +kernel
theorem dX4_spend_36 : decode cX4_spend 36 = .ok (.iinc 1 1, 3) := by decide +kernel
theorem dX4_spend_39 : decode cX4_spend 39 = .ok (.goto (-26), 3) := by decide +kernel
theorem dX4_spend_42 : decode cX4_spend 42 = .ok (.return_, 1) := by decide +kernel
set_option maxHeartbeats 4000000 in
set_option maxRecDepth 100000 in
theorem g_push (l : Launch) (D : va_G) (cy : Nat → ClassId) (sz : Nat) (h0 : Nat) (rtext : Nat) (rvalues : Nat) (rstates : Nat) (rmarks : Nat) (rstack : Nat) (rframes : Nat) (rlowest : Nat) (rnow : Nat) (imade : Int32) (isteps : Int32) (icalls : Int32) (ipc : Int32) (ilenient : Int32) (ileaving : Int32) (ileavingValue : Int32) (iover : Int32) (ianswer : Int32) (mk : Nat) (tp : Nat) (dp : Nat) (gf : Nat → Int32) (p0 : Int32) (hmk : mk ≤ 200) (htp : tp ≤ 1200) (hdp : dp ≤ 32) : Met l yX4_push (.code yX4_push cX4_push 2 none :: TB) ({ frames := 0, cells := 0, slots := 0, locals := 0 }) (va_Pc [.ref h0, .int p0] (fun U => U.heap.size = sz ∧ va_P D vwCl [(h0, .inr (4, [.ref rtext, .ref rvalues, .ref rstates, .ref rmarks, .int (nI mk), .int imade, .int isteps, .ref rstack, .int (nI tp), .ref rframes, .int (nI dp), .int icalls, .int ipc, .ref rlowest, .ref rnow, .int ilenient, .int ileaving, .int ileavingValue, .int iover, .int ianswer])), (rstack, .inl (cy 1, 1200, .inl gf))] U.heap ∧ va_K D vwCl (TY cy) U ∧ va_D (fun _ => True) [(h0, .inr (4, [.ref rtext, .ref rvalues, .ref rstates, .ref rmarks, .int (nI mk), .int imade, .int isteps, .ref rstack, .int (nI tp), .ref rframes, .int (nI dp), .int icalls, .int ipc, .ref rlowest, .ref rnow, .int ilenient, .int ileaving, .int ileavingValue, .int iover, .int ianswer])), (rstack, .inl (cy 1, 1200, .inl gf))])) (va_Qv (fun (u : Nat × (Nat → Int32)) => u.1 ≤ 1200) (fun (u : Nat × (Nat → Int32)) t => va_P D vwCl [(h0, .inr (4, [.ref rtext, .ref rvalues, .ref rstates, .ref rmarks, .int (nI mk), .int imade, .int isteps, .ref rstack, .int (nI u.1), .ref rframes, .int (nI dp), .int icalls, .int ipc, .ref rlowest, .ref rnow, .int ilenient, .int ileaving, .int ileavingValue, .int iover, .int ianswer])), (rstack, .inl (cy 1, 1200, .inl u.2))] t.heap ∧ va_D (va_A [(h0, .inr (4, [.ref rtext, .ref rvalues, .ref rstates, .ref rmarks, .int (nI mk), .int imade, .int isteps, .ref rstack, .int (nI tp), .ref rframes, .int (nI dp), .int icalls, .int ipc, .ref rlowest, .ref rnow, .int ilenient, .int ileaving, .int ileavingValue, .int iover, .int ianswer])), (rstack, .inl (cy 1, 1200, .inl gf))] sz) [(h0, .inr (4, [.ref rtext, .ref rvalues, .ref rstates, .ref rmarks, .int (nI mk), .int imade, .int isteps, .ref rstack, .int (nI u.1), .ref rframes, .int (nI dp), .int icalls, .int ipc, .ref rlowest, .ref rnow, .int ilenient, .int ileaving, .int ileavingValue, .int iover, .int ianswer])), (rstack, .inl (cy 1, 1200, .inl u.2))]) (va_A [(h0, .inr (4, [.ref rtext, .ref rvalues, .ref rstates, .ref rmarks, .int (nI mk), .int imade, .int isteps, .ref rstack, .int (nI tp), .ref rframes, .int (nI dp), .int icalls, .int ipc, .ref rlowest, .ref rnow, .int ilenient, .int ileaving, .int ileavingValue, .int iover, .int ianswer])), (rstack, .inl (cy 1, 1200, .inl gf))] sz)) 0 0 (va_A [(h0, .inr (4, [.ref rtext, .ref rvalues, .ref rstates, .ref rmarks, .int (nI mk), .int imade, .int isteps, .ref rstack, .int (nI tp), .ref rframes, .int (nI dp), .int icalls, .int ipc, .ref rlowest, .ref rnow, .int ilenient, .int ileaving, .int ileavingValue, .int iover, .int ianswer])), (rstack, .inl (cy 1, 1200, .inl gf))] sz) := by
  refine Met.ofW (cc := cX4_push) (maxL := 2) (ret := none) (by decide) rfl ?_
  intro p e s m args below meth c s₁ B hml hv
  obtain ⟨rfl, hsz, hP, hK, hD0⟩ := hv
  have hx := B.exec
  have hb := B.bytes
  have hr := B.returns
  have hts := atoms_spec (ws := .code yX4_push cX4_push 2 none :: TB) B.pre
  have hT : ∀ w ∈ TB, w.before _ s = true := fun w h => hts w (List.mem_cons_of_mem _ h)
  have hown : s.vm.findClass "MakerStarts$Machine" = some m.cls := findClass_of_methodNamed B.named
  have hlocks := B.notSynchronized
  subst hsz
  have hD := hD0.self (sz := s.heap.size)
  generalize hAe : va_A [(h0, .inr (4, [.ref rtext, .ref rvalues, .ref rstates, .ref rmarks, .int (nI mk), .int imade, .int isteps, .ref rstack, .int (nI tp), .ref rframes, .int (nI dp), .int icalls, .int ipc, .ref rlowest, .ref rnow, .int ilenient, .int ileaving, .int ileavingValue, .int iover, .int ianswer])), (rstack, .inl (cy 1, 1200, .inl gf))] s.heap.size = A at hD  ⊢
  have hA : ∀ q : Nat, s.heap.size ≤ q → A q := fun q h => by rw [← hAe]; exact Or.inr h
  have hS : va_S A s.heap s.heap [] := va_S.rf
  have hP : va_P D vwCl [(h0, .inr (4, [.ref rtext, .ref rvalues, .ref rstates, .ref rmarks, .int (nI mk), .int imade, .int isteps, .ref rstack, .int (nI tp), .ref rframes, .int (nI dp), .int icalls, .int ipc, .ref rlowest, .ref rnow, .int ilenient, .int ileaving, .int ileavingValue, .int iover, .int ianswer])), (rstack, .inl (cy 1, 1200, .inl gf))] s.heap := hP
  have hl := lv_entry ([.ref h0, .int p0]) (n := 2) (Nat.le_of_ble_eq_true rfl)
  rw [lg_entry_eq]
  generalize (lg_sl ([.ref h0, .int p0]) ++ List.replicate (2 - (lg_sl ([.ref h0, .int p0])).length) Slot.unset).toArray = ls at hl ⊢
  have hl : lv_has ls 2 [(0, .ref h0), (1, .int p0)] := hl
  refine lv_aload_n hx hb dX4_push_0 rfl (lv_at hl 0 rfl) ?_
  refine va_get (D := D) (ci := 4) (v := .int (nI tp)) (C := RX4) (T := TX4) (N := 20) hx hb hT i_TX4 hown hK hP 0 rfl rfl 8 (by decide) (hT _ t_480) (fun _ h9 => h9) rfl dX4_push_1 ?_
  refine lv_sipush (v := 1200) hx hb dX4_push_4 (by decide) ?_
  refine lv_icmp_ge (tgt := 30) hx hb dX4_push_7 (by decide) (fun c1 => ?_) (fun c1 => ?_)
  · have hP9 := hP.sub (ws' := [(h0, .inr (4, [.ref rtext, .ref rvalues, .ref rstates, .ref rmarks, .int (nI mk), .int imade, .int isteps, .ref rstack, .int (nI tp), .ref rframes, .int (nI dp), .int icalls, .int ipc, .ref rlowest, .ref rnow, .int ilenient, .int ileaving, .int ileavingValue, .int iover, .int ianswer])), (rstack, .inl (cy 1, 1200, .inl gf))]) [0, 1] rfl
    have hD9 := hD.sub (ws' := [(h0, .inr (4, [.ref rtext, .ref rvalues, .ref rstates, .ref rmarks, .int (nI mk), .int imade, .int isteps, .ref rstack, .int (nI tp), .ref rframes, .int (nI dp), .int icalls, .int ipc, .ref rlowest, .ref rnow, .int ilenient, .int ileaving, .int ileavingValue, .int iover, .int ianswer])), (rstack, .inl (cy 1, 1200, .inl gf))]) [0, 1] (by decide) rfl
    refine W.widen (k := 0) (n := 0) (Nat.le_of_ble_eq_true rfl) (Nat.le_of_ble_eq_true rfl) ?_
    exact W.vret hx hb hr (fun t ht hW => ⟨⟨(tp, gf), rfl, htp, by rw [ht]; exact hP9, hD9⟩, hS.F ht⟩) hS.2.2 dX4_push_30
  · have hlt : tp < 1200 := by
      rcases Nat.lt_or_ge tp 1200 with q | q
      · exact q
      · exact absurd (nI_le (a := 1200) (b := tp) q (by omega)) c1
    refine lv_aload_n hx hb dX4_push_10 rfl (lv_at hl 0 rfl) ?_
    refine va_get (D := D) (ci := 4) (v := .ref rstack) (C := RX4) (T := TX4) (N := 20) hx hb hT i_TX4 hown hK hP 0 rfl rfl 7 (by decide) (hT _ t_479) (fun _ h9 => h9) rfl dX4_push_11 ?_
    refine lv_aload_n hx hb dX4_push_14 rfl (lv_at hl 0 rfl) ?_
    refine va_get (D := D) (ci := 4) (v := .int (nI tp)) (C := RX4) (T := TX4) (N := 20) hx hb hT i_TX4 hown hK hP 0 rfl rfl 8 (by decide) (hT _ t_480) (fun _ h9 => h9) rfl dX4_push_15 ?_
    refine lv_iload_n hx hb dX4_push_18 rfl (lv_at hl 1 rfl) ?_
    refine va_iast hx hb hK hP hD hS 1 1 rfl rfl (vp_in_nI hlt (by decide)) dX4_push_19 (fun H locs hP hD hS => ?_)
    have hP : va_P D vwCl [(h0, .inr (4, [.ref rtext, .ref rvalues, .ref rstates, .ref rmarks, .int (nI mk), .int imade, .int isteps, .ref rstack, .int (nI tp), .ref rframes, .int (nI dp), .int icalls, .int ipc, .ref rlowest, .ref rnow, .int ilenient, .int ileaving, .int ileavingValue, .int iover, .int ianswer])), (rstack, .inl (cy 1, 1200, .inl (upd gf ((nI tp) : Int32).toNatClampNeg p0)))] H := hP
    have hD : va_D A [(h0, .inr (4, [.ref rtext, .ref rvalues, .ref rstates, .ref rmarks, .int (nI mk), .int imade, .int isteps, .ref rstack, .int (nI tp), .ref rframes, .int (nI dp), .int icalls, .int ipc, .ref rlowest, .ref rnow, .int ilenient, .int ileaving, .int ileavingValue, .int iover, .int ianswer])), (rstack, .inl (cy 1, 1200, .inl (upd gf ((nI tp) : Int32).toNatClampNeg p0)))] := hD
    generalize hff2 : (upd gf ((nI tp) : Int32).toNatClampNeg p0) = f2 at hP hD
    refine lv_aload_n hx hb dX4_push_20 rfl (lv_at hl 0 rfl) ?_
    refine lv_dup hx hb dX4_push_21 rfl ?_
    refine va_get (D := D) (ci := 4) (v := .int (nI tp)) (C := RX4) (T := TX4) (N := 20) hx hb hT i_TX4 hown hK hP 0 rfl rfl 8 (by decide) (hT _ t_480) (fun _ h9 => h9) rfl dX4_push_22 ?_
    refine lv_iconst (v := 1) hx hb dX4_push_25 (by decide) ?_
    refine lv_iadd hx hb dX4_push_26 ?_
    refine lv_topi (fun z3 e4 => ?_)
    obtain rfl : z3 = nI (tp + 1) := e4.trans (nI_1 tp)
    refine va_put (D := D) (ci := 4) (v := .int (nI (tp + 1))) (ty := .int) (C := RX4) (T := TX4) (N := 20) hx hb hT i_TX4 tyX4 tyX4_ok nmX4 hown hK hP hD hS 0 rfl rfl 8 (by decide) (hT _ t_480) (fun _ h9 => h9) rfl (by decide +kernel) rfl rfl (Nat.le_of_ble_eq_true rfl) dX4_push_27 (fun H locs hP hD hS => ?_)
    have hP : va_P D vwCl [(h0, .inr (4, [.ref rtext, .ref rvalues, .ref rstates, .ref rmarks, .int (nI mk), .int imade, .int isteps, .ref rstack, .int (nI (tp + 1)), .ref rframes, .int (nI dp), .int icalls, .int ipc, .ref rlowest, .ref rnow, .int ilenient, .int ileaving, .int ileavingValue, .int iover, .int ianswer])), (rstack, .inl (cy 1, 1200, .inl f2))] H := hP
    have hD : va_D A [(h0, .inr (4, [.ref rtext, .ref rvalues, .ref rstates, .ref rmarks, .int (nI mk), .int imade, .int isteps, .ref rstack, .int (nI (tp + 1)), .ref rframes, .int (nI dp), .int icalls, .int ipc, .ref rlowest, .ref rnow, .int ilenient, .int ileaving, .int ileavingValue, .int iover, .int ianswer])), (rstack, .inl (cy 1, 1200, .inl f2))] := hD
    have hP9 := hP.sub (ws' := [(h0, .inr (4, [.ref rtext, .ref rvalues, .ref rstates, .ref rmarks, .int (nI mk), .int imade, .int isteps, .ref rstack, .int (nI (tp + 1)), .ref rframes, .int (nI dp), .int icalls, .int ipc, .ref rlowest, .ref rnow, .int ilenient, .int ileaving, .int ileavingValue, .int iover, .int ianswer])), (rstack, .inl (cy 1, 1200, .inl f2))]) [0, 1] rfl
    have hD9 := hD.sub (ws' := [(h0, .inr (4, [.ref rtext, .ref rvalues, .ref rstates, .ref rmarks, .int (nI mk), .int imade, .int isteps, .ref rstack, .int (nI (tp + 1)), .ref rframes, .int (nI dp), .int icalls, .int ipc, .ref rlowest, .ref rnow, .int ilenient, .int ileaving, .int ileavingValue, .int iover, .int ianswer])), (rstack, .inl (cy 1, 1200, .inl f2))]) [0, 1] (by decide) rfl
    refine W.widen (k := 0) (n := 0) (Nat.le_of_ble_eq_true rfl) (Nat.le_of_ble_eq_true rfl) ?_
    exact W.vret hx hb hr (fun t ht hW => ⟨⟨((tp + 1), f2), rfl, (show tp + 1 ≤ 1200 from hlt), by rw [ht]; exact hP9, hD9⟩, hS.F ht⟩) hS.2.2 dX4_push_30

set_option maxHeartbeats 4000000 in
set_option maxRecDepth 100000 in
theorem g_keepMark (l : Launch) (D : va_G) (cy : Nat → ClassId) (sz : Nat) (h0 : Nat) (rtext : Nat) (rvalues : Nat) (rstates : Nat) (rmarks : Nat) (rstack : Nat) (rframes : Nat) (rlowest : Nat) (rnow : Nat) (imade : Int32) (isteps : Int32) (icalls : Int32) (ipc : Int32) (ilenient : Int32) (ileaving : Int32) (ileavingValue : Int32) (iover : Int32) (ianswer : Int32) (mk : Nat) (tp : Nat) (dp : Nat) (gf : Nat → Int32) (p0 : Int32) (hmk : mk ≤ 200) (htp : tp ≤ 1200) (hdp : dp ≤ 32) : Met l yX4_keepMark (.code yX4_keepMark cX4_keepMark 2 none :: TB) ({ frames := 0, cells := 0, slots := 0, locals := 0 }) (va_Pc [.ref h0, .int p0] (fun U => U.heap.size = sz ∧ va_P D vwCl [(h0, .inr (4, [.ref rtext, .ref rvalues, .ref rstates, .ref rmarks, .int (nI mk), .int imade, .int isteps, .ref rstack, .int (nI tp), .ref rframes, .int (nI dp), .int icalls, .int ipc, .ref rlowest, .ref rnow, .int ilenient, .int ileaving, .int ileavingValue, .int iover, .int ianswer])), (rmarks, .inl (cy 1, 200, .inl gf))] U.heap ∧ va_K D vwCl (TY cy) U ∧ va_D (fun _ => True) [(h0, .inr (4, [.ref rtext, .ref rvalues, .ref rstates, .ref rmarks, .int (nI mk), .int imade, .int isteps, .ref rstack, .int (nI tp), .ref rframes, .int (nI dp), .int icalls, .int ipc, .ref rlowest, .ref rnow, .int ilenient, .int ileaving, .int ileavingValue, .int iover, .int ianswer])), (rmarks, .inl (cy 1, 200, .inl gf))])) (va_Qv (fun (u : Nat × (Nat → Int32)) => u.1 ≤ 200) (fun (u : Nat × (Nat → Int32)) t => va_P D vwCl [(h0, .inr (4, [.ref rtext, .ref rvalues, .ref rstates, .ref rmarks, .int (nI u.1), .int imade, .int isteps, .ref rstack, .int (nI tp), .ref rframes, .int (nI dp), .int icalls, .int ipc, .ref rlowest, .ref rnow, .int ilenient, .int ileaving, .int ileavingValue, .int iover, .int ianswer])), (rmarks, .inl (cy 1, 200, .inl u.2))] t.heap ∧ va_D (va_A [(h0, .inr (4, [.ref rtext, .ref rvalues, .ref rstates, .ref rmarks, .int (nI mk), .int imade, .int isteps, .ref rstack, .int (nI tp), .ref rframes, .int (nI dp), .int icalls, .int ipc, .ref rlowest, .ref rnow, .int ilenient, .int ileaving, .int ileavingValue, .int iover, .int ianswer])), (rmarks, .inl (cy 1, 200, .inl gf))] sz) [(h0, .inr (4, [.ref rtext, .ref rvalues, .ref rstates, .ref rmarks, .int (nI u.1), .int imade, .int isteps, .ref rstack, .int (nI tp), .ref rframes, .int (nI dp), .int icalls, .int ipc, .ref rlowest, .ref rnow, .int ilenient, .int ileaving, .int ileavingValue, .int iover, .int ianswer])), (rmarks, .inl (cy 1, 200, .inl u.2))]) (va_A [(h0, .inr (4, [.ref rtext, .ref rvalues, .ref rstates, .ref rmarks, .int (nI mk), .int imade, .int isteps, .ref rstack, .int (nI tp), .ref rframes, .int (nI dp), .int icalls, .int ipc, .ref rlowest, .ref rnow, .int ilenient, .int ileaving, .int ileavingValue, .int iover, .int ianswer])), (rmarks, .inl (cy 1, 200, .inl gf))] sz)) 0 0 (va_A [(h0, .inr (4, [.ref rtext, .ref rvalues, .ref rstates, .ref rmarks, .int (nI mk), .int imade, .int isteps, .ref rstack, .int (nI tp), .ref rframes, .int (nI dp), .int icalls, .int ipc, .ref rlowest, .ref rnow, .int ilenient, .int ileaving, .int ileavingValue, .int iover, .int ianswer])), (rmarks, .inl (cy 1, 200, .inl gf))] sz) := by
  refine Met.ofW (cc := cX4_keepMark) (maxL := 2) (ret := none) (by decide) rfl ?_
  intro p e s m args below meth c s₁ B hml hv
  obtain ⟨rfl, hsz, hP, hK, hD0⟩ := hv
  have hx := B.exec
  have hb := B.bytes
  have hr := B.returns
  have hts := atoms_spec (ws := .code yX4_keepMark cX4_keepMark 2 none :: TB) B.pre
  have hT : ∀ w ∈ TB, w.before _ s = true := fun w h => hts w (List.mem_cons_of_mem _ h)
  have hown : s.vm.findClass "MakerStarts$Machine" = some m.cls := findClass_of_methodNamed B.named
  have hlocks := B.notSynchronized
  subst hsz
  have hD := hD0.self (sz := s.heap.size)
  generalize hAe : va_A [(h0, .inr (4, [.ref rtext, .ref rvalues, .ref rstates, .ref rmarks, .int (nI mk), .int imade, .int isteps, .ref rstack, .int (nI tp), .ref rframes, .int (nI dp), .int icalls, .int ipc, .ref rlowest, .ref rnow, .int ilenient, .int ileaving, .int ileavingValue, .int iover, .int ianswer])), (rmarks, .inl (cy 1, 200, .inl gf))] s.heap.size = A at hD  ⊢
  have hA : ∀ q : Nat, s.heap.size ≤ q → A q := fun q h => by rw [← hAe]; exact Or.inr h
  have hS : va_S A s.heap s.heap [] := va_S.rf
  have hP : va_P D vwCl [(h0, .inr (4, [.ref rtext, .ref rvalues, .ref rstates, .ref rmarks, .int (nI mk), .int imade, .int isteps, .ref rstack, .int (nI tp), .ref rframes, .int (nI dp), .int icalls, .int ipc, .ref rlowest, .ref rnow, .int ilenient, .int ileaving, .int ileavingValue, .int iover, .int ianswer])), (rmarks, .inl (cy 1, 200, .inl gf))] s.heap := hP
  have hl := lv_entry ([.ref h0, .int p0]) (n := 2) (Nat.le_of_ble_eq_true rfl)
  rw [lg_entry_eq]
  generalize (lg_sl ([.ref h0, .int p0]) ++ List.replicate (2 - (lg_sl ([.ref h0, .int p0])).length) Slot.unset).toArray = ls at hl ⊢
  have hl : lv_has ls 2 [(0, .ref h0), (1, .int p0)] := hl
  refine lv_aload_n hx hb dX4_keepMark_0 rfl (lv_at hl 0 rfl) ?_
  refine va_get (D := D) (ci := 4) (v := .int (nI mk)) (C := RX4) (T := TX4) (N := 20) hx hb hT i_TX4 hown hK hP 0 rfl rfl 4 (by decide) (hT _ t_473) (fun _ h9 => h9) rfl dX4_keepMark_1 ?_
  refine lv_sipush (v := 200) hx hb dX4_keepMark_4 (by decide) ?_
  refine lv_icmp_ge (tgt := 30) hx hb dX4_keepMark_7 (by decide) (fun c1 => ?_) (fun c1 => ?_)
  · have hP9 := hP.sub (ws' := [(h0, .inr (4, [.ref rtext, .ref rvalues, .ref rstates, .ref rmarks, .int (nI mk), .int imade, .int isteps, .ref rstack, .int (nI tp), .ref rframes, .int (nI dp), .int icalls, .int ipc, .ref rlowest, .ref rnow, .int ilenient, .int ileaving, .int ileavingValue, .int iover, .int ianswer])), (rmarks, .inl (cy 1, 200, .inl gf))]) [0, 1] rfl
    have hD9 := hD.sub (ws' := [(h0, .inr (4, [.ref rtext, .ref rvalues, .ref rstates, .ref rmarks, .int (nI mk), .int imade, .int isteps, .ref rstack, .int (nI tp), .ref rframes, .int (nI dp), .int icalls, .int ipc, .ref rlowest, .ref rnow, .int ilenient, .int ileaving, .int ileavingValue, .int iover, .int ianswer])), (rmarks, .inl (cy 1, 200, .inl gf))]) [0, 1] (by decide) rfl
    refine W.widen (k := 0) (n := 0) (Nat.le_of_ble_eq_true rfl) (Nat.le_of_ble_eq_true rfl) ?_
    exact W.vret hx hb hr (fun t ht hW => ⟨⟨(mk, gf), rfl, hmk, by rw [ht]; exact hP9, hD9⟩, hS.F ht⟩) hS.2.2 dX4_keepMark_30
  · have hlt : mk < 200 := by
      rcases Nat.lt_or_ge mk 200 with q | q
      · exact q
      · exact absurd (nI_le (a := 200) (b := mk) q (by omega)) c1
    refine lv_aload_n hx hb dX4_keepMark_10 rfl (lv_at hl 0 rfl) ?_
    refine va_get (D := D) (ci := 4) (v := .ref rmarks) (C := RX4) (T := TX4) (N := 20) hx hb hT i_TX4 hown hK hP 0 rfl rfl 3 (by decide) (hT _ t_471) (fun _ h9 => h9) rfl dX4_keepMark_11 ?_
    refine lv_aload_n hx hb dX4_keepMark_14 rfl (lv_at hl 0 rfl) ?_
    refine va_get (D := D) (ci := 4) (v := .int (nI mk)) (C := RX4) (T := TX4) (N := 20) hx hb hT i_TX4 hown hK hP 0 rfl rfl 4 (by decide) (hT _ t_473) (fun _ h9 => h9) rfl dX4_keepMark_15 ?_
    refine lv_iload_n hx hb dX4_keepMark_18 rfl (lv_at hl 1 rfl) ?_
    refine va_iast hx hb hK hP hD hS 1 1 rfl rfl (vp_in_nI hlt (by decide)) dX4_keepMark_19 (fun H locs hP hD hS => ?_)
    have hP : va_P D vwCl [(h0, .inr (4, [.ref rtext, .ref rvalues, .ref rstates, .ref rmarks, .int (nI mk), .int imade, .int isteps, .ref rstack, .int (nI tp), .ref rframes, .int (nI dp), .int icalls, .int ipc, .ref rlowest, .ref rnow, .int ilenient, .int ileaving, .int ileavingValue, .int iover, .int ianswer])), (rmarks, .inl (cy 1, 200, .inl (upd gf ((nI mk) : Int32).toNatClampNeg p0)))] H := hP
    have hD : va_D A [(h0, .inr (4, [.ref rtext, .ref rvalues, .ref rstates, .ref rmarks, .int (nI mk), .int imade, .int isteps, .ref rstack, .int (nI tp), .ref rframes, .int (nI dp), .int icalls, .int ipc, .ref rlowest, .ref rnow, .int ilenient, .int ileaving, .int ileavingValue, .int iover, .int ianswer])), (rmarks, .inl (cy 1, 200, .inl (upd gf ((nI mk) : Int32).toNatClampNeg p0)))] := hD
    generalize hff2 : (upd gf ((nI mk) : Int32).toNatClampNeg p0) = f2 at hP hD
    refine lv_aload_n hx hb dX4_keepMark_20 rfl (lv_at hl 0 rfl) ?_
    refine lv_dup hx hb dX4_keepMark_21 rfl ?_
    refine va_get (D := D) (ci := 4) (v := .int (nI mk)) (C := RX4) (T := TX4) (N := 20) hx hb hT i_TX4 hown hK hP 0 rfl rfl 4 (by decide) (hT _ t_473) (fun _ h9 => h9) rfl dX4_keepMark_22 ?_
    refine lv_iconst (v := 1) hx hb dX4_keepMark_25 (by decide) ?_
    refine lv_iadd hx hb dX4_keepMark_26 ?_
    refine lv_topi (fun z3 e4 => ?_)
    obtain rfl : z3 = nI (mk + 1) := e4.trans (nI_1 mk)
    refine va_put (D := D) (ci := 4) (v := .int (nI (mk + 1))) (ty := .int) (C := RX4) (T := TX4) (N := 20) hx hb hT i_TX4 tyX4 tyX4_ok nmX4 hown hK hP hD hS 0 rfl rfl 4 (by decide) (hT _ t_473) (fun _ h9 => h9) rfl (by decide +kernel) rfl rfl (Nat.le_of_ble_eq_true rfl) dX4_keepMark_27 (fun H locs hP hD hS => ?_)
    have hP : va_P D vwCl [(h0, .inr (4, [.ref rtext, .ref rvalues, .ref rstates, .ref rmarks, .int (nI (mk + 1)), .int imade, .int isteps, .ref rstack, .int (nI tp), .ref rframes, .int (nI dp), .int icalls, .int ipc, .ref rlowest, .ref rnow, .int ilenient, .int ileaving, .int ileavingValue, .int iover, .int ianswer])), (rmarks, .inl (cy 1, 200, .inl f2))] H := hP
    have hD : va_D A [(h0, .inr (4, [.ref rtext, .ref rvalues, .ref rstates, .ref rmarks, .int (nI (mk + 1)), .int imade, .int isteps, .ref rstack, .int (nI tp), .ref rframes, .int (nI dp), .int icalls, .int ipc, .ref rlowest, .ref rnow, .int ilenient, .int ileaving, .int ileavingValue, .int iover, .int ianswer])), (rmarks, .inl (cy 1, 200, .inl f2))] := hD
    have hP9 := hP.sub (ws' := [(h0, .inr (4, [.ref rtext, .ref rvalues, .ref rstates, .ref rmarks, .int (nI (mk + 1)), .int imade, .int isteps, .ref rstack, .int (nI tp), .ref rframes, .int (nI dp), .int icalls, .int ipc, .ref rlowest, .ref rnow, .int ilenient, .int ileaving, .int ileavingValue, .int iover, .int ianswer])), (rmarks, .inl (cy 1, 200, .inl f2))]) [0, 1] rfl
    have hD9 := hD.sub (ws' := [(h0, .inr (4, [.ref rtext, .ref rvalues, .ref rstates, .ref rmarks, .int (nI (mk + 1)), .int imade, .int isteps, .ref rstack, .int (nI tp), .ref rframes, .int (nI dp), .int icalls, .int ipc, .ref rlowest, .ref rnow, .int ilenient, .int ileaving, .int ileavingValue, .int iover, .int ianswer])), (rmarks, .inl (cy 1, 200, .inl f2))]) [0, 1] (by decide) rfl
    refine W.widen (k := 0) (n := 0) (Nat.le_of_ble_eq_true rfl) (Nat.le_of_ble_eq_true rfl) ?_
    exact W.vret hx hb hr (fun t ht hW => ⟨⟨((mk + 1), f2), rfl, (show mk + 1 ≤ 200 from hlt), by rw [ht]; exact hP9, hD9⟩, hS.F ht⟩) hS.2.2 dX4_keepMark_30

set_option maxHeartbeats 4000000 in
set_option maxRecDepth 100000 in
theorem g_pop (l : Launch) (D : va_G) (cy : Nat → ClassId) (sz : Nat) (h0 : Nat) (rtext : Nat) (rvalues : Nat) (rstates : Nat) (rmarks : Nat) (rstack : Nat) (rframes : Nat) (rlowest : Nat) (rnow : Nat) (imade : Int32) (isteps : Int32) (icalls : Int32) (ipc : Int32) (ilenient : Int32) (ileaving : Int32) (ileavingValue : Int32) (iover : Int32) (ianswer : Int32) (mk : Nat) (tp : Nat) (dp : Nat) (gf : Nat → Int32) (hmk : mk ≤ 200) (htp : tp ≤ 1200) (hdp : dp ≤ 32) : Met l yX4_pop (.code yX4_pop cX4_pop 1 (some .int) :: TB) ({ frames := 0, cells := 0, slots := 0, locals := 0 }) (va_Pc [.ref h0] (fun U => U.heap.size = sz ∧ va_P D vwCl [(h0, .inr (4, [.ref rtext, .ref rvalues, .ref rstates, .ref rmarks, .int (nI mk), .int imade, .int isteps, .ref rstack, .int (nI tp), .ref rframes, .int (nI dp), .int icalls, .int ipc, .ref rlowest, .ref rnow, .int ilenient, .int ileaving, .int ileavingValue, .int iover, .int ianswer])), (rstack, .inl (cy 1, 1200, .inl gf))] U.heap ∧ va_K D vwCl (TY cy) U ∧ va_D (fun _ => True) [(h0, .inr (4, [.ref rtext, .ref rvalues, .ref rstates, .ref rmarks, .int (nI mk), .int imade, .int isteps, .ref rstack, .int (nI tp), .ref rframes, .int (nI dp), .int icalls, .int ipc, .ref rlowest, .ref rnow, .int ilenient, .int ileaving, .int ileavingValue, .int iover, .int ianswer])), (rstack, .inl (cy 1, 1200, .inl gf))])) (va_Qi (fun (r : Int32) (u : Nat) => u ≤ 1200) (fun (u : Nat) t => va_P D vwCl [(h0, .inr (4, [.ref rtext, .ref rvalues, .ref rstates, .ref rmarks, .int (nI mk), .int imade, .int isteps, .ref rstack, .int (nI u), .ref rframes, .int (nI dp), .int icalls, .int ipc, .ref rlowest, .ref rnow, .int ilenient, .int ileaving, .int ileavingValue, .int iover, .int ianswer])), (rstack, .inl (cy 1, 1200, .inl gf))] t.heap ∧ va_D (va_A [(h0, .inr (4, [.ref rtext, .ref rvalues, .ref rstates, .ref rmarks, .int (nI mk), .int imade, .int isteps, .ref rstack, .int (nI tp), .ref rframes, .int (nI dp), .int icalls, .int ipc, .ref rlowest, .ref rnow, .int ilenient, .int ileaving, .int ileavingValue, .int iover, .int ianswer])), (rstack, .inl (cy 1, 1200, .inl gf))] sz) [(h0, .inr (4, [.ref rtext, .ref rvalues, .ref rstates, .ref rmarks, .int (nI mk), .int imade, .int isteps, .ref rstack, .int (nI u), .ref rframes, .int (nI dp), .int icalls, .int ipc, .ref rlowest, .ref rnow, .int ilenient, .int ileaving, .int ileavingValue, .int iover, .int ianswer])), (rstack, .inl (cy 1, 1200, .inl gf))]) (va_A [(h0, .inr (4, [.ref rtext, .ref rvalues, .ref rstates, .ref rmarks, .int (nI mk), .int imade, .int isteps, .ref rstack, .int (nI tp), .ref rframes, .int (nI dp), .int icalls, .int ipc, .ref rlowest, .ref rnow, .int ilenient, .int ileaving, .int ileavingValue, .int iover, .int ianswer])), (rstack, .inl (cy 1, 1200, .inl gf))] sz)) 0 0 (va_A [(h0, .inr (4, [.ref rtext, .ref rvalues, .ref rstates, .ref rmarks, .int (nI mk), .int imade, .int isteps, .ref rstack, .int (nI tp), .ref rframes, .int (nI dp), .int icalls, .int ipc, .ref rlowest, .ref rnow, .int ilenient, .int ileaving, .int ileavingValue, .int iover, .int ianswer])), (rstack, .inl (cy 1, 1200, .inl gf))] sz) := by
  refine Met.ofW (cc := cX4_pop) (maxL := 1) (ret := (some .int)) (by decide) rfl ?_
  intro p e s m args below meth c s₁ B hml hv
  obtain ⟨rfl, hsz, hP, hK, hD0⟩ := hv
  have hx := B.exec
  have hb := B.bytes
  have hr := B.returns
  have hts := atoms_spec (ws := .code yX4_pop cX4_pop 1 (some .int) :: TB) B.pre
  have hT : ∀ w ∈ TB, w.before _ s = true := fun w h => hts w (List.mem_cons_of_mem _ h)
  have hown : s.vm.findClass "MakerStarts$Machine" = some m.cls := findClass_of_methodNamed B.named
  have hlocks := B.notSynchronized
  subst hsz
  have hD := hD0.self (sz := s.heap.size)
  generalize hAe : va_A [(h0, .inr (4, [.ref rtext, .ref rvalues, .ref rstates, .ref rmarks, .int (nI mk), .int imade, .int isteps, .ref rstack, .int (nI tp), .ref rframes, .int (nI dp), .int icalls, .int ipc, .ref rlowest, .ref rnow, .int ilenient, .int ileaving, .int ileavingValue, .int iover, .int ianswer])), (rstack, .inl (cy 1, 1200, .inl gf))] s.heap.size = A at hD  ⊢
  have hA : ∀ q : Nat, s.heap.size ≤ q → A q := fun q h => by rw [← hAe]; exact Or.inr h
  have hS : va_S A s.heap s.heap [] := va_S.rf
  have hP : va_P D vwCl [(h0, .inr (4, [.ref rtext, .ref rvalues, .ref rstates, .ref rmarks, .int (nI mk), .int imade, .int isteps, .ref rstack, .int (nI tp), .ref rframes, .int (nI dp), .int icalls, .int ipc, .ref rlowest, .ref rnow, .int ilenient, .int ileaving, .int ileavingValue, .int iover, .int ianswer])), (rstack, .inl (cy 1, 1200, .inl gf))] s.heap := hP
  have hl := lv_entry ([.ref h0]) (n := 1) (Nat.le_of_ble_eq_true rfl)
  rw [lg_entry_eq]
  generalize (lg_sl ([.ref h0]) ++ List.replicate (1 - (lg_sl ([.ref h0])).length) Slot.unset).toArray = ls at hl ⊢
  have hl : lv_has ls 1 [(0, .ref h0)] := hl
  refine lv_aload_n hx hb dX4_pop_0 rfl (lv_at hl 0 rfl) ?_
  refine va_get (D := D) (ci := 4) (v := .int (nI tp)) (C := RX4) (T := TX4) (N := 20) hx hb hT i_TX4 hown hK hP 0 rfl rfl 8 (by decide) (hT _ t_480) (fun _ h9 => h9) rfl dX4_pop_1 ?_
  refine lv_iconst (v := 1) hx hb dX4_pop_4 (by decide) ?_
  refine lv_icmp_ge (tgt := 10) hx hb dX4_pop_5 (by decide) (fun c1 => ?_) (fun c1 => ?_)
  · obtain ⟨k9, rfl⟩ : ∃ k, tp = k + 1 := by
      cases tp with
      | zero => exact absurd c1 (by decide)
      | succ k => exact ⟨k, rfl⟩
    refine lv_aload_n hx hb dX4_pop_10 rfl (lv_at hl 0 rfl) ?_
    refine lv_dup hx hb dX4_pop_11 rfl ?_
    refine va_get (D := D) (ci := 4) (v := .int (nI (k9 + 1))) (C := RX4) (T := TX4) (N := 20) hx hb hT i_TX4 hown hK hP 0 rfl rfl 8 (by decide) (hT _ t_480) (fun _ h9 => h9) rfl dX4_pop_12 ?_
    refine lv_iconst (v := 1) hx hb dX4_pop_15 (by decide) ?_
    refine lv_isub hx hb dX4_pop_16 ?_
    refine lv_topi (fun z2 e3 => ?_)
    obtain rfl : z2 = nI k9 := e3.trans (nI_pred k9)
    refine va_put (D := D) (ci := 4) (v := .int (nI k9)) (ty := .int) (C := RX4) (T := TX4) (N := 20) hx hb hT i_TX4 tyX4 tyX4_ok nmX4 hown hK hP hD hS 0 rfl rfl 8 (by decide) (hT _ t_480) (fun _ h9 => h9) rfl (by decide +kernel) rfl rfl (Nat.le_of_ble_eq_true rfl) dX4_pop_17 (fun H locs hP hD hS => ?_)
    have hP : va_P D vwCl [(h0, .inr (4, [.ref rtext, .ref rvalues, .ref rstates, .ref rmarks, .int (nI mk), .int imade, .int isteps, .ref rstack, .int (nI k9), .ref rframes, .int (nI dp), .int icalls, .int ipc, .ref rlowest, .ref rnow, .int ilenient, .int ileaving, .int ileavingValue, .int iover, .int ianswer])), (rstack, .inl (cy 1, 1200, .inl gf))] H := hP
    have hD : va_D A [(h0, .inr (4, [.ref rtext, .ref rvalues, .ref rstates, .ref rmarks, .int (nI mk), .int imade, .int isteps, .ref rstack, .int (nI k9), .ref rframes, .int (nI dp), .int icalls, .int ipc, .ref rlowest, .ref rnow, .int ilenient, .int ileaving, .int ileavingValue, .int iover, .int ianswer])), (rstack, .inl (cy 1, 1200, .inl gf))] := hD
    refine lv_aload_n hx hb dX4_pop_20 rfl (lv_at hl 0 rfl) ?_
    refine va_get (D := D) (ci := 4) (v := .ref rstack) (C := RX4) (T := TX4) (N := 20) hx hb hT i_TX4 hown hK hP 0 rfl rfl 7 (by decide) (hT _ t_479) (fun _ h9 => h9) rfl dX4_pop_21 ?_
    refine lv_aload_n hx hb dX4_pop_24 rfl (lv_at hl 0 rfl) ?_
    refine va_get (D := D) (ci := 4) (v := .int (nI k9)) (C := RX4) (T := TX4) (N := 20) hx hb hT i_TX4 hown hK hP 0 rfl rfl 8 (by decide) (hT _ t_480) (fun _ h9 => h9) rfl dX4_pop_25 ?_
    refine va_iald hx hb hK hP 1 1 rfl rfl (vp_in_nI (by omega) (by decide)) dX4_pop_28 ?_
    refine lv_topi (fun z4 e5 => ?_)
    have hP9 := hP.sub (ws' := [(h0, .inr (4, [.ref rtext, .ref rvalues, .ref rstates, .ref rmarks, .int (nI mk), .int imade, .int isteps, .ref rstack, .int (nI k9), .ref rframes, .int (nI dp), .int icalls, .int ipc, .ref rlowest, .ref rnow, .int ilenient, .int ileaving, .int ileavingValue, .int iover, .int ianswer])), (rstack, .inl (cy 1, 1200, .inl gf))]) [0, 1] rfl
    have hD9 := hD.sub (ws' := [(h0, .inr (4, [.ref rtext, .ref rvalues, .ref rstates, .ref rmarks, .int (nI mk), .int imade, .int isteps, .ref rstack, .int (nI k9), .ref rframes, .int (nI dp), .int icalls, .int ipc, .ref rlowest, .ref rnow, .int ilenient, .int ileaving, .int ileavingValue, .int iover, .int ianswer])), (rstack, .inl (cy 1, 1200, .inl gf))]) [0, 1] (by decide) rfl
    refine W.widen (k := 0) (n := 0) (Nat.le_of_ble_eq_true rfl) (Nat.le_of_ble_eq_true rfl) ?_
    exact W.iret (v := z4) hx hb hr (fun t ht hW => ⟨⟨z4, k9, rfl, (show k9 ≤ 1200 by omega), by rw [ht]; exact hP9, hD9⟩, hS.F ht⟩) hS.2.2 dX4_pop_29
  · refine lv_iconst (v := 0) hx hb dX4_pop_8 (by decide) ?_
    have hP9 := hP.sub (ws' := [(h0, .inr (4, [.ref rtext, .ref rvalues, .ref rstates, .ref rmarks, .int (nI mk), .int imade, .int isteps, .ref rstack, .int (nI tp), .ref rframes, .int (nI dp), .int icalls, .int ipc, .ref rlowest, .ref rnow, .int ilenient, .int ileaving, .int ileavingValue, .int iover, .int ianswer])), (rstack, .inl (cy 1, 1200, .inl gf))]) [0, 1] rfl
    have hD9 := hD.sub (ws' := [(h0, .inr (4, [.ref rtext, .ref rvalues, .ref rstates, .ref rmarks, .int (nI mk), .int imade, .int isteps, .ref rstack, .int (nI tp), .ref rframes, .int (nI dp), .int icalls, .int ipc, .ref rlowest, .ref rnow, .int ilenient, .int ileaving, .int ileavingValue, .int iover, .int ianswer])), (rstack, .inl (cy 1, 1200, .inl gf))]) [0, 1] (by decide) rfl
    refine W.widen (k := 0) (n := 0) (Nat.le_of_ble_eq_true rfl) (Nat.le_of_ble_eq_true rfl) ?_
    exact W.iret (v := 0) hx hb hr (fun t ht hW => ⟨⟨0, tp, rfl, htp, by rw [ht]; exact hP9, hD9⟩, hS.F ht⟩) hS.2.2 dX4_pop_9

set_option maxHeartbeats 4000000 in
set_option maxRecDepth 100000 in
theorem g_leaveWith (l : Launch) (D : va_G) (cy : Nat → ClassId) (sz : Nat) (h0 : Nat) (rtext : Nat) (rvalues : Nat) (rstates : Nat) (rmarks : Nat) (rstack : Nat) (rframes : Nat) (rlowest : Nat) (rnow : Nat) (imade : Int32) (isteps : Int32) (icalls : Int32) (ipc : Int32) (ilenient : Int32) (ileaving : Int32) (ileavingValue : Int32) (iover : Int32) (ianswer : Int32) (mk : Nat) (tp : Nat) (dp : Nat) (p0 : Int32) (p1 : Int32) : Met l yX4_leaveWith (.code yX4_leaveWith cX4_leaveWith 3 none :: TB) ({ frames := 0, cells := 0, slots := 0, locals := 0 }) (va_Pc [.ref h0, .int p0, .int p1] (fun U => U.heap.size = sz ∧ va_P D vwCl [(h0, .inr (4, [.ref rtext, .ref rvalues, .ref rstates, .ref rmarks, .int (nI mk), .int imade, .int isteps, .ref rstack, .int (nI tp), .ref rframes, .int (nI dp), .int icalls, .int ipc, .ref rlowest, .ref rnow, .int ilenient, .int ileaving, .int ileavingValue, .int iover, .int ianswer]))] U.heap ∧ va_K D vwCl (TY cy) U ∧ va_D (fun _ => True) [(h0, .inr (4, [.ref rtext, .ref rvalues, .ref rstates, .ref rmarks, .int (nI mk), .int imade, .int isteps, .ref rstack, .int (nI tp), .ref rframes, .int (nI dp), .int icalls, .int ipc, .ref rlowest, .ref rnow, .int ilenient, .int ileaving, .int ileavingValue, .int iover, .int ianswer]))])) (va_Qv (fun (u : Unit) => True) (fun (u : Unit) t => va_P D vwCl [(h0, .inr (4, [.ref rtext, .ref rvalues, .ref rstates, .ref rmarks, .int (nI mk), .int imade, .int isteps, .ref rstack, .int (nI tp), .ref rframes, .int (nI dp), .int icalls, .int ipc, .ref rlowest, .ref rnow, .int ilenient, .int p0, .int p1, .int iover, .int ianswer]))] t.heap ∧ va_D (va_A [(h0, .inr (4, [.ref rtext, .ref rvalues, .ref rstates, .ref rmarks, .int (nI mk), .int imade, .int isteps, .ref rstack, .int (nI tp), .ref rframes, .int (nI dp), .int icalls, .int ipc, .ref rlowest, .ref rnow, .int ilenient, .int ileaving, .int ileavingValue, .int iover, .int ianswer]))] sz) [(h0, .inr (4, [.ref rtext, .ref rvalues, .ref rstates, .ref rmarks, .int (nI mk), .int imade, .int isteps, .ref rstack, .int (nI tp), .ref rframes, .int (nI dp), .int icalls, .int ipc, .ref rlowest, .ref rnow, .int ilenient, .int p0, .int p1, .int iover, .int ianswer]))]) (va_A [(h0, .inr (4, [.ref rtext, .ref rvalues, .ref rstates, .ref rmarks, .int (nI mk), .int imade, .int isteps, .ref rstack, .int (nI tp), .ref rframes, .int (nI dp), .int icalls, .int ipc, .ref rlowest, .ref rnow, .int ilenient, .int ileaving, .int ileavingValue, .int iover, .int ianswer]))] sz)) 0 0 (va_A [(h0, .inr (4, [.ref rtext, .ref rvalues, .ref rstates, .ref rmarks, .int (nI mk), .int imade, .int isteps, .ref rstack, .int (nI tp), .ref rframes, .int (nI dp), .int icalls, .int ipc, .ref rlowest, .ref rnow, .int ilenient, .int ileaving, .int ileavingValue, .int iover, .int ianswer]))] sz) := by
  refine Met.ofW (cc := cX4_leaveWith) (maxL := 3) (ret := none) (by decide) rfl ?_
  intro p e s m args below meth c s₁ B hml hv
  obtain ⟨rfl, hsz, hP, hK, hD0⟩ := hv
  have hx := B.exec
  have hb := B.bytes
  have hr := B.returns
  have hts := atoms_spec (ws := .code yX4_leaveWith cX4_leaveWith 3 none :: TB) B.pre
  have hT : ∀ w ∈ TB, w.before _ s = true := fun w h => hts w (List.mem_cons_of_mem _ h)
  have hown : s.vm.findClass "MakerStarts$Machine" = some m.cls := findClass_of_methodNamed B.named
  have hlocks := B.notSynchronized
  subst hsz
  have hD := hD0.self (sz := s.heap.size)
  generalize hAe : va_A [(h0, .inr (4, [.ref rtext, .ref rvalues, .ref rstates, .ref rmarks, .int (nI mk), .int imade, .int isteps, .ref rstack, .int (nI tp), .ref rframes, .int (nI dp), .int icalls, .int ipc, .ref rlowest, .ref rnow, .int ilenient, .int ileaving, .int ileavingValue, .int iover, .int ianswer]))] s.heap.size = A at hD  ⊢
  have hA : ∀ q : Nat, s.heap.size ≤ q → A q := fun q h => by rw [← hAe]; exact Or.inr h
  have hS : va_S A s.heap s.heap [] := va_S.rf
  have hP : va_P D vwCl [(h0, .inr (4, [.ref rtext, .ref rvalues, .ref rstates, .ref rmarks, .int (nI mk), .int imade, .int isteps, .ref rstack, .int (nI tp), .ref rframes, .int (nI dp), .int icalls, .int ipc, .ref rlowest, .ref rnow, .int ilenient, .int ileaving, .int ileavingValue, .int iover, .int ianswer]))] s.heap := hP
  have hl := lv_entry ([.ref h0, .int p0, .int p1]) (n := 3) (Nat.le_of_ble_eq_true rfl)
  rw [lg_entry_eq]
  generalize (lg_sl ([.ref h0, .int p0, .int p1]) ++ List.replicate (3 - (lg_sl ([.ref h0, .int p0, .int p1])).length) Slot.unset).toArray = ls at hl ⊢
  have hl : lv_has ls 3 [(0, .ref h0), (1, .int p0), (2, .int p1)] := hl
  refine lv_aload_n hx hb dX4_leaveWith_0 rfl (lv_at hl 0 rfl) ?_
  refine lv_iload_n hx hb dX4_leaveWith_1 rfl (lv_at hl 1 rfl) ?_
  refine va_put (D := D) (ci := 4) (v := .int p0) (ty := .int) (C := RX4) (T := TX4) (N := 20) hx hb hT i_TX4 tyX4 tyX4_ok nmX4 hown hK hP hD hS 0 rfl rfl 16 (by decide) (hT _ t_488) (fun _ h9 => h9) rfl (by decide +kernel) rfl rfl (Nat.le_of_ble_eq_true rfl) dX4_leaveWith_2 (fun H locs hP hD hS => ?_)
  have hP : va_P D vwCl [(h0, .inr (4, [.ref rtext, .ref rvalues, .ref rstates, .ref rmarks, .int (nI mk), .int imade, .int isteps, .ref rstack, .int (nI tp), .ref rframes, .int (nI dp), .int icalls, .int ipc, .ref rlowest, .ref rnow, .int ilenient, .int p0, .int ileavingValue, .int iover, .int ianswer]))] H := hP
  have hD : va_D A [(h0, .inr (4, [.ref rtext, .ref rvalues, .ref rstates, .ref rmarks, .int (nI mk), .int imade, .int isteps, .ref rstack, .int (nI tp), .ref rframes, .int (nI dp), .int icalls, .int ipc, .ref rlowest, .ref rnow, .int ilenient, .int p0, .int ileavingValue, .int iover, .int ianswer]))] := hD
  refine lv_aload_n hx hb dX4_leaveWith_5 rfl (lv_at hl 0 rfl) ?_
  refine lv_iload_n hx hb dX4_leaveWith_6 rfl (lv_at hl 2 rfl) ?_
  refine va_put (D := D) (ci := 4) (v := .int p1) (ty := .int) (C := RX4) (T := TX4) (N := 20) hx hb hT i_TX4 tyX4 tyX4_ok nmX4 hown hK hP hD hS 0 rfl rfl 17 (by decide) (hT _ t_489) (fun _ h9 => h9) rfl (by decide +kernel) rfl rfl (Nat.le_of_ble_eq_true rfl) dX4_leaveWith_7 (fun H locs hP hD hS => ?_)
  have hP : va_P D vwCl [(h0, .inr (4, [.ref rtext, .ref rvalues, .ref rstates, .ref rmarks, .int (nI mk), .int imade, .int isteps, .ref rstack, .int (nI tp), .ref rframes, .int (nI dp), .int icalls, .int ipc, .ref rlowest, .ref rnow, .int ilenient, .int p0, .int p1, .int iover, .int ianswer]))] H := hP
  have hD : va_D A [(h0, .inr (4, [.ref rtext, .ref rvalues, .ref rstates, .ref rmarks, .int (nI mk), .int imade, .int isteps, .ref rstack, .int (nI tp), .ref rframes, .int (nI dp), .int icalls, .int ipc, .ref rlowest, .ref rnow, .int ilenient, .int p0, .int p1, .int iover, .int ianswer]))] := hD
  have hP9 := hP.sub (ws' := [(h0, .inr (4, [.ref rtext, .ref rvalues, .ref rstates, .ref rmarks, .int (nI mk), .int imade, .int isteps, .ref rstack, .int (nI tp), .ref rframes, .int (nI dp), .int icalls, .int ipc, .ref rlowest, .ref rnow, .int ilenient, .int p0, .int p1, .int iover, .int ianswer]))]) [0] rfl
  have hD9 := hD.sub (ws' := [(h0, .inr (4, [.ref rtext, .ref rvalues, .ref rstates, .ref rmarks, .int (nI mk), .int imade, .int isteps, .ref rstack, .int (nI tp), .ref rframes, .int (nI dp), .int icalls, .int ipc, .ref rlowest, .ref rnow, .int ilenient, .int p0, .int p1, .int iover, .int ianswer]))]) [0] (by decide) rfl
  refine W.widen (k := 0) (n := 0) (Nat.le_of_ble_eq_true rfl) (Nat.le_of_ble_eq_true rfl) ?_
  exact W.vret hx hb hr (fun t ht hW => ⟨⟨(), rfl, trivial, by rw [ht]; exact hP9, hD9⟩, hS.F ht⟩) hS.2.2 dX4_leaveWith_10

set_option maxHeartbeats 4000000 in
set_option maxRecDepth 100000 in
theorem g_spend (l : Launch) (D : va_G) (cy : Nat → ClassId) (sz : Nat) (h0 : Nat) (rtext : Nat) (rvalues : Nat) (rstates : Nat) (rmarks : Nat) (rstack : Nat) (rframes : Nat) (rlowest : Nat) (rnow : Nat) (imade : Int32) (isteps : Int32) (icalls : Int32) (ipc : Int32) (ilenient : Int32) (ileaving : Int32) (ileavingValue : Int32) (iover : Int32) (ianswer : Int32) (mk : Nat) (tp : Nat) (dp : Nat) (gf : Nat → Int32) : Met l yX4_spend (.code yX4_spend cX4_spend 2 none :: TB) ({ frames := 0, cells := 0, slots := 0, locals := 0 }) (va_Pc [.ref h0] (fun U => U.heap.size = sz ∧ va_P D vwCl [(h0, .inr (4, [.ref rtext, .ref rvalues, .ref rstates, .ref rmarks, .int (nI mk), .int imade, .int isteps, .ref rstack, .int (nI tp), .ref rframes, .int (nI dp), .int icalls, .int ipc, .ref rlowest, .ref rnow, .int ilenient, .int ileaving, .int ileavingValue, .int iover, .int ianswer])), (rstates, .inl (cy 1, 8, .inl gf))] U.heap ∧ va_K D vwCl (TY cy) U ∧ va_D (fun _ => True) [(h0, .inr (4, [.ref rtext, .ref rvalues, .ref rstates, .ref rmarks, .int (nI mk), .int imade, .int isteps, .ref rstack, .int (nI tp), .ref rframes, .int (nI dp), .int icalls, .int ipc, .ref rlowest, .ref rnow, .int ilenient, .int ileaving, .int ileavingValue, .int iover, .int ianswer])), (rstates, .inl (cy 1, 8, .inl gf))])) (va_Qv (fun (u : Nat → Int32) => True) (fun (u : Nat → Int32) t => va_P D vwCl [(h0, .inr (4, [.ref rtext, .ref rvalues, .ref rstates, .ref rmarks, .int (nI mk), .int imade, .int isteps, .ref rstack, .int (nI tp), .ref rframes, .int (nI dp), .int icalls, .int ipc, .ref rlowest, .ref rnow, .int ilenient, .int ileaving, .int ileavingValue, .int 1, .int 12])), (rstates, .inl (cy 1, 8, .inl u))] t.heap ∧ va_D (va_A [(h0, .inr (4, [.ref rtext, .ref rvalues, .ref rstates, .ref rmarks, .int (nI mk), .int imade, .int isteps, .ref rstack, .int (nI tp), .ref rframes, .int (nI dp), .int icalls, .int ipc, .ref rlowest, .ref rnow, .int ilenient, .int ileaving, .int ileavingValue, .int iover, .int ianswer])), (rstates, .inl (cy 1, 8, .inl gf))] sz) [(h0, .inr (4, [.ref rtext, .ref rvalues, .ref rstates, .ref rmarks, .int (nI mk), .int imade, .int isteps, .ref rstack, .int (nI tp), .ref rframes, .int (nI dp), .int icalls, .int ipc, .ref rlowest, .ref rnow, .int ilenient, .int ileaving, .int ileavingValue, .int 1, .int 12])), (rstates, .inl (cy 1, 8, .inl u))]) (va_A [(h0, .inr (4, [.ref rtext, .ref rvalues, .ref rstates, .ref rmarks, .int (nI mk), .int imade, .int isteps, .ref rstack, .int (nI tp), .ref rframes, .int (nI dp), .int icalls, .int ipc, .ref rlowest, .ref rnow, .int ilenient, .int ileaving, .int ileavingValue, .int iover, .int ianswer])), (rstates, .inl (cy 1, 8, .inl gf))] sz)) 0 0 (va_A [(h0, .inr (4, [.ref rtext, .ref rvalues, .ref rstates, .ref rmarks, .int (nI mk), .int imade, .int isteps, .ref rstack, .int (nI tp), .ref rframes, .int (nI dp), .int icalls, .int ipc, .ref rlowest, .ref rnow, .int ilenient, .int ileaving, .int ileavingValue, .int iover, .int ianswer])), (rstates, .inl (cy 1, 8, .inl gf))] sz) := by
  refine Met.ofW (cc := cX4_spend) (maxL := 2) (ret := none) (by decide) rfl ?_
  intro p e s m args below meth c s₁ B hml hv
  obtain ⟨rfl, hsz, hP, hK, hD0⟩ := hv
  have hx := B.exec
  have hb := B.bytes
  have hr := B.returns
  have hts := atoms_spec (ws := .code yX4_spend cX4_spend 2 none :: TB) B.pre
  have hT : ∀ w ∈ TB, w.before _ s = true := fun w h => hts w (List.mem_cons_of_mem _ h)
  have hown : s.vm.findClass "MakerStarts$Machine" = some m.cls := findClass_of_methodNamed B.named
  have hlocks := B.notSynchronized
  subst hsz
  have hD := hD0.self (sz := s.heap.size)
  generalize hAe : va_A [(h0, .inr (4, [.ref rtext, .ref rvalues, .ref rstates, .ref rmarks, .int (nI mk), .int imade, .int isteps, .ref rstack, .int (nI tp), .ref rframes, .int (nI dp), .int icalls, .int ipc, .ref rlowest, .ref rnow, .int ilenient, .int ileaving, .int ileavingValue, .int iover, .int ianswer])), (rstates, .inl (cy 1, 8, .inl gf))] s.heap.size = A at hD  ⊢
  have hA : ∀ q : Nat, s.heap.size ≤ q → A q := fun q h => by rw [← hAe]; exact Or.inr h
  have hS : va_S A s.heap s.heap [] := va_S.rf
  have hP : va_P D vwCl [(h0, .inr (4, [.ref rtext, .ref rvalues, .ref rstates, .ref rmarks, .int (nI mk), .int imade, .int isteps, .ref rstack, .int (nI tp), .ref rframes, .int (nI dp), .int icalls, .int ipc, .ref rlowest, .ref rnow, .int ilenient, .int ileaving, .int ileavingValue, .int iover, .int ianswer])), (rstates, .inl (cy 1, 8, .inl gf))] s.heap := hP
  have hl := lv_entry ([.ref h0]) (n := 2) (Nat.le_of_ble_eq_true rfl)
  rw [lg_entry_eq]
  generalize (lg_sl ([.ref h0]) ++ List.replicate (2 - (lg_sl ([.ref h0])).length) Slot.unset).toArray = ls at hl ⊢
  have hl : lv_has ls 2 [(0, .ref h0)] := hl
  refine lv_aload_n hx hb dX4_spend_0 rfl (lv_at hl 0 rfl) ?_
  refine lv_iconst (v := 1) hx hb dX4_spend_1 (by decide) ?_
  refine va_put (D := D) (ci := 4) (v := .int 1) (ty := .boolean) (C := RX4) (T := TX4) (N := 20) hx hb hT i_TX4 tyX4 tyX4_ok nmX4 hown hK hP hD hS 0 rfl rfl 18 (by decide) (hT _ t_490) (fun _ h9 => h9) rfl (by decide +kernel) rfl rfl (Nat.le_of_ble_eq_true rfl) dX4_spend_2 (fun H locs hP hD hS => ?_)
  have hP : va_P D vwCl [(h0, .inr (4, [.ref rtext, .ref rvalues, .ref rstates, .ref rmarks, .int (nI mk), .int imade, .int isteps, .ref rstack, .int (nI tp), .ref rframes, .int (nI dp), .int icalls, .int ipc, .ref rlowest, .ref rnow, .int ilenient, .int ileaving, .int ileavingValue, .int 1, .int ianswer])), (rstates, .inl (cy 1, 8, .inl gf))] H := hP
  have hD : va_D A [(h0, .inr (4, [.ref rtext, .ref rvalues, .ref rstates, .ref rmarks, .int (nI mk), .int imade, .int isteps, .ref rstack, .int (nI tp), .ref rframes, .int (nI dp), .int icalls, .int ipc, .ref rlowest, .ref rnow, .int ilenient, .int ileaving, .int ileavingValue, .int 1, .int ianswer])), (rstates, .inl (cy 1, 8, .inl gf))] := hD
  refine lv_aload_n hx hb dX4_spend_5 rfl (lv_at hl 0 rfl) ?_
  refine lv_bipush (v := 12) hx hb dX4_spend_6 (by decide) ?_
  refine va_put (D := D) (ci := 4) (v := .int 12) (ty := .int) (C := RX4) (T := TX4) (N := 20) hx hb hT i_TX4 tyX4 tyX4_ok nmX4 hown hK hP hD hS 0 rfl rfl 19 (by decide) (hT _ t_491) (fun _ h9 => h9) rfl (by decide +kernel) rfl rfl (Nat.le_of_ble_eq_true rfl) dX4_spend_8 (fun H locs hP hD hS => ?_)
  have hP : va_P D vwCl [(h0, .inr (4, [.ref rtext, .ref rvalues, .ref rstates, .ref rmarks, .int (nI mk), .int imade, .int isteps, .ref rstack, .int (nI tp), .ref rframes, .int (nI dp), .int icalls, .int ipc, .ref rlowest, .ref rnow, .int ilenient, .int ileaving, .int ileavingValue, .int 1, .int 12])), (rstates, .inl (cy 1, 8, .inl gf))] H := hP
  have hD : va_D A [(h0, .inr (4, [.ref rtext, .ref rvalues, .ref rstates, .ref rmarks, .int (nI mk), .int imade, .int isteps, .ref rstack, .int (nI tp), .ref rframes, .int (nI dp), .int icalls, .int ipc, .ref rlowest, .ref rnow, .int ilenient, .int ileaving, .int ileavingValue, .int 1, .int 12])), (rstates, .inl (cy 1, 8, .inl gf))] := hD
  refine lv_iconst (v := 0) hx hb dX4_spend_11 (by decide) ?_
  refine lv_istore_n (lv' := [(1, .int 0), (0, .ref h0)]) hx hb dX4_spend_12 rfl hl (by decide) rfl (fun ls hl => ?_)
  refine loopW (St := Nat × (Nat → Int32)) (fun n st H locs ls => st.1 + n = 8 ∧ va_P D vwCl [(h0, .inr (4, [.ref rtext, .ref rvalues, .ref rstates, .ref rmarks, .int (nI mk), .int imade, .int isteps, .ref rstack, .int (nI tp), .ref rframes, .int (nI dp), .int icalls, .int ipc, .ref rlowest, .ref rnow, .int ilenient, .int ileaving, .int ileavingValue, .int 1, .int 12])), (rstates, .inl (cy 1, 8, .inl st.2))] H ∧ va_D A [(h0, .inr (4, [.ref rtext, .ref rvalues, .ref rstates, .ref rmarks, .int (nI mk), .int imade, .int isteps, .ref rstack, .int (nI tp), .ref rframes, .int (nI dp), .int icalls, .int ipc, .ref rlowest, .ref rnow, .int ilenient, .int ileaving, .int ileavingValue, .int 1, .int 12])), (rstates, .inl (cy 1, 8, .inl st.2))] ∧ va_S A s.heap H locs ∧ lv_has ls 2 [(1, .int (nI st.1)), (0, .ref h0)]) 13 ?_ ?_ 8 (0, gf) _ _ ls ⟨rfl, hP, hD, hS, hl⟩
  · rintro ⟨i, fk⟩ H locs ls ⟨hi, hP, hD, hS, hl⟩
    dsimp only at hi hP hD hl
    obtain rfl : i = 8 := by omega
    refine lv_iload_n hx hb dX4_spend_13 rfl (lv_at hl 0 rfl) ?_
    refine lv_bipush (v := 8) hx hb dX4_spend_14 (by decide) ?_
    refine lv_icmp_ge (tgt := 42) hx hb dX4_spend_16 (by decide) (fun _ => ?_) (fun c9 => absurd (by decide) c9)
    have hP9 := hP.sub (ws' := [(h0, .inr (4, [.ref rtext, .ref rvalues, .ref rstates, .ref rmarks, .int (nI mk), .int imade, .int isteps, .ref rstack, .int (nI tp), .ref rframes, .int (nI dp), .int icalls, .int ipc, .ref rlowest, .ref rnow, .int ilenient, .int ileaving, .int ileavingValue, .int 1, .int 12])), (rstates, .inl (cy 1, 8, .inl fk))]) [0, 1] rfl
    have hD9 := hD.sub (ws' := [(h0, .inr (4, [.ref rtext, .ref rvalues, .ref rstates, .ref rmarks, .int (nI mk), .int imade, .int isteps, .ref rstack, .int (nI tp), .ref rframes, .int (nI dp), .int icalls, .int ipc, .ref rlowest, .ref rnow, .int ilenient, .int ileaving, .int ileavingValue, .int 1, .int 12])), (rstates, .inl (cy 1, 8, .inl fk))]) [0, 1] (by decide) rfl
    refine W.widen (k := 0) (n := 0) (Nat.le_of_ble_eq_true rfl) (Nat.le_of_ble_eq_true rfl) ?_
    exact W.vret hx hb hr (fun t ht hW => ⟨⟨fk, rfl, trivial, by rw [ht]; exact hP9, hD9⟩, hS.F ht⟩) hS.2.2 dX4_spend_42
  · rintro n ⟨i, fk⟩ H locs ls ⟨hi, hP, hD, hS, hl⟩ ih
    dsimp only at hi hP hD hl
    refine lv_iload_n hx hb dX4_spend_13 rfl (lv_at hl 0 rfl) ?_
    refine lv_bipush (v := 8) hx hb dX4_spend_14 (by decide) ?_
    refine lv_icmp_ge (tgt := 42) hx hb dX4_spend_16 (by decide) (fun c9 => absurd c9 (nI_ge (a := i) (b := 8) (by omega) (by decide))) (fun _ => ?_)
    refine lv_aload_n hx hb dX4_spend_19 rfl (lv_at hl 1 rfl) ?_
    refine va_get (D := D) (ci := 4) (v := .ref rstates) (C := RX4) (T := TX4) (N := 20) hx hb hT i_TX4 hown hK hP 0 rfl rfl 2 (by decide) (hT _ t_470) (fun _ h9 => h9) rfl dX4_spend_20 ?_
    refine lv_iload_n hx hb dX4_spend_23 rfl (lv_at hl 0 rfl) ?_
    refine va_iald hx hb hK hP 1 1 rfl rfl (vp_in_nI (by omega) (by decide)) dX4_spend_24 ?_
    refine lv_topi (fun z1 e2 => ?_)
    refine lv_iconst (v := 3) hx hb dX4_spend_25 (by decide) ?_
    refine lv_icmp_ne (tgt := 36) hx hb dX4_spend_26 (by decide) (fun c3 => ?_) (fun c3 => ?_)
    · obtain ⟨z4, e5⟩ : ∃ y : Int32, y = (nI i) + 1 := ⟨_, rfl⟩
      refine lv_iinc (v := z4) (lv' := [(1, .int z4), (0, .ref h0)]) hx hb dX4_spend_36 hl (k := 0) rfl (by rw [e5]; rfl) (by decide) rfl (fun ls hl => ?_)
      obtain rfl : z4 = nI (i + 1) := e5.trans (nI_1 i)
      refine lv_goto (tgt := 13) hx hb dX4_spend_39 (by decide) ?_
      exact ih (i + 1, fk) H locs ls ⟨show i + 1 + n = 8 by omega, hP, hD, hS, lv_sub hl [0, 1] rfl⟩
    · refine lv_aload_n hx hb dX4_spend_29 rfl (lv_at hl 1 rfl) ?_
      refine va_get (D := D) (ci := 4) (v := .ref rstates) (C := RX4) (T := TX4) (N := 20) hx hb hT i_TX4 hown hK hP 0 rfl rfl 2 (by decide) (hT _ t_470) (fun _ h9 => h9) rfl dX4_spend_30 ?_
      refine lv_iload_n hx hb dX4_spend_33 rfl (lv_at hl 0 rfl) ?_
      refine lv_iconst (v := 2) hx hb dX4_spend_34 (by decide) ?_
      refine va_iast hx hb hK hP hD hS 1 1 rfl rfl (vp_in_nI (by omega) (by decide)) dX4_spend_35 (fun H locs hP hD hS => ?_)
      have hP : va_P D vwCl [(h0, .inr (4, [.ref rtext, .ref rvalues, .ref rstates, .ref rmarks, .int (nI mk), .int imade, .int isteps, .ref rstack, .int (nI tp), .ref rframes, .int (nI dp), .int icalls, .int ipc, .ref rlowest, .ref rnow, .int ilenient, .int ileaving, .int ileavingValue, .int 1, .int 12])), (rstates, .inl (cy 1, 8, .inl (upd fk ((nI i) : Int32).toNatClampNeg 2)))] H := hP
      have hD : va_D A [(h0, .inr (4, [.ref rtext, .ref rvalues, .ref rstates, .ref rmarks, .int (nI mk), .int imade, .int isteps, .ref rstack, .int (nI tp), .ref rframes, .int (nI dp), .int icalls, .int ipc, .ref rlowest, .ref rnow, .int ilenient, .int ileaving, .int ileavingValue, .int 1, .int 12])), (rstates, .inl (cy 1, 8, .inl (upd fk ((nI i) : Int32).toNatClampNeg 2)))] := hD
      generalize hff6 : (upd fk ((nI i) : Int32).toNatClampNeg 2) = f6 at hP hD
      obtain ⟨z7, e8⟩ : ∃ y : Int32, y = (nI i) + 1 := ⟨_, rfl⟩
      refine lv_iinc (v := z7) (lv' := [(1, .int z7), (0, .ref h0)]) hx hb dX4_spend_36 hl (k := 0) rfl (by rw [e8]; rfl) (by decide) rfl (fun ls hl => ?_)
      obtain rfl : z7 = nI (i + 1) := e8.trans (nI_1 i)
      refine lv_goto (tgt := 13) hx hb dX4_spend_39 (by decide) ?_
      exact ih (i + 1, f6) H locs ls ⟨show i + 1 + n = 8 by omega, hP, hD, hS, lv_sub hl [0, 1] rfl⟩
