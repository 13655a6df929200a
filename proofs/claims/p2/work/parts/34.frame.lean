theorem t_419 : (Jvm.Cond.fieldLink "MakerStarts$Frame" (45 : Nat) "MakerStarts$Frame" "link" "I") ∈ TB := inTB 419 (by decide +kernel) (by decide +kernel)
theorem t_422 : (Jvm.Cond.fieldLink "MakerStarts$Frame" (41 : Nat) "MakerStarts$Frame" "own" "Z") ∈ TB := inTB 422 (by decide +kernel) (by decide +kernel)
theorem dX2_clear_0 : decode cX2_clear 0 = .ok (.aload_n 0, 1) := by decide +kernel
theorem dX2_clear_1 : decode cX2_clear 1 = .ok (.iconst 0, 1) := by decide +kernel
theorem dX2_clear_2 : decode cX2_clear 2 = .ok (.putfield 41, 3) := by decide +kernel
theorem dX2_clear_5 : decode cX2_clear 5 = .ok (.aload_n 0, 1) := by decide +kernel
theorem dX2_clear_6 : decode cX2_clear 6 = .ok (.iconst 0, 1) := by decide +kernel
theorem dX2_clear_7 : decode cX2_clear 7 = .ok (.putfield 45, 3) := by decide +kernel
theorem dX2_clear_10 : decode cX2_clear 10 = .ok (.aload_n 0, 1) := by decide +kernel
theorem dX2_clear_11 : decode cX2_clear 11 = .ok (.aconst_null, 1) := by decide +kernel
theorem dX2_clear_12 : decode cX2_clear 12 = .ok (.putfield 9, 3) := by decide +kernel
theorem dX2_clear_15 : decode cX2_clear 15 = .ok (.aload_n 0, 1) := by decide +kernel
theorem dX2_clear_16 : decode cX2_clear 16 = .ok (.iconst 0, 1) := by decide +kernel
theorem dX2_clear_17 : decode cX2_clear 17 = .ok (.putfield 38, 3) := by decide +kernel
theorem dX2_clear_20 : decode cX2_clear 20 = .ok (.return_, 1) := by decide +kernel
theorem dX2_closeTry_0 : decode cX2_closeTry 0 = .ok (.aload_n 0, 1) := by decide +kernel
theorem dX2_closeTry_1 : decode cX2_closeTry 1 = .ok (.getfield 38, 3) := by decide +kernel
theorem dX2_closeTry_4 : decode cX2_closeTry 4 = .ok (.ifCond .le 13, 3) := by decide +kernel
theorem dX2_closeTry_7 : decode cX2_closeTry 7 = .ok (.aload_n 0, 1) := by decide +kernel
theorem dX2_closeTry_8 : decode cX2_closeTry 8 = .ok (.dup, 1) := by decide +kernel
theorem dX2_closeTry_9 : decode cX2_closeTry 9 = .ok (.getfield 38, 3) := by decide +kernel
theorem dX2_closeTry_12 : decode cX2_closeTry 12 = .ok (.iconst 1, 1) := by decide +kernel
theorem dX2_closeTry_13 : decode cX2_closeTry 13 = .ok (.isub, 1) := by decide +kernel
theorem dX2_closeTry_14 : decode cX2_closeTry 14 = .ok (.putfield 38, 3) := by decide +kernel
theorem dX2_closeTry_17 : decode cX2_closeTry 17 = .ok (.return_, 1) := by decide +kernel
theorem dX2_isTrying_0 : decode cX2_isTrying 0 = .ok (.aload_n 0, 1) := by decide +kernel
theorem dX2_isTrying_1 : decode cX2_isTrying 1 = .ok (.getfield 38, 3) := by decide +kernel
theorem dX2_isTrying_4 : decode cX2_isTrying 4 = .ok (.ifCond .le 16, 3) := by decide +kernel
theorem dX2_isTrying_7 : decode cX2_isTrying 7 = .ok (.aload_n 0, 1) := by decide +kernel
theorem dX2_isTrying_8 : decode cX2_isTrying 8 = .ok (.getfield 38, 3) := by decide +kernel
theorem dX2_isTrying_11 : decode cX2_isTrying 11 = .ok (.bipush 8, 2) := by decide +kernel
theorem dX2_isTrying_13 : decode cX2_isTrying 13 = .ok (.if_icmp .gt 7, 3) := by decide +kernel
theorem dX2_isTrying_16 : decode cX2_isTrying 16 = .ok (.iconst 1, 1) := by decide +kernel
theorem dX2_isTrying_17 : decode cX2_isTrying 17 = .ok (.goto 4, 3) := by decide +kernel
theorem dX2_isTrying_20 : decode cX2_isTrying 20 = .ok (.iconst 0, 1) := by decide +kernel
theorem dX2_isTrying_21 : decode cX2_isTrying 21 = .ok (.ireturn, 1) := by decide +kernel
theorem dX2_openTry_0 : decode cX2_openTry 0 = .ok (.aload_n 0, 1) := by decide +kernel
theorem dX2_openTry_1 : decode cX2_openTry 1 = .ok (.getfield 38, 3) := by decide +kernel
theorem dX2_openTry_4 : decode cX2_openTry 4 = .ok (.bipush 8, 2) := by decide +kernel
theorem dX2_openTry_6 : decode cX2_openTry 6 = .ok (.if_icmp .ge 43, 3) := by decide +kernel
theorem dX2_openTry_9 : decode cX2_openTry 9 = .ok (.aload_n 0, 1) := by decide +kernel
theorem dX2_openTry_10 : decode cX2_openTry 10 = .ok (.dup, 1) := by decide +kernel
theorem dX2_openTry_11 : decode cX2_openTry 11 = .ok (.getfield 38, 3) := by decide +kernel
theorem dX2_openTry_14 : decode cX2_openTry 14 = .ok (.iconst 1, 1) := by decide +kernel
theorem dX2_openTry_15 : decode cX2_openTry 15 = .ok (.iadd, 1) := by decide +kernel
theorem dX2_openTry_16 : decode cX2_openTry 16 = .ok (.putfield 38, 3) := by decide +kernel
theorem dX2_openTry_19 : decode cX2_openTry 19 = .ok (.aload_n 0, 1) := by decide +kernel
theorem dX2_openTry_20 : decode cX2_openTry 20 = .ok (.getfield 26, 3) := by decide +kernel
theorem dX2_openTry_23 : decode cX2_openTry 23 = .ok (.aload_n 0, 1) := by decide +kernel
theorem dX2_openTry_24 : decode cX2_openTry 24 = .ok (.getfield 38, 3) := by decide +kernel
theorem dX2_openTry_27 : decode cX2_openTry 27 = .ok (.iload_n 1, 1) := by decide +kernel
theorem dX2_openTry_28 : decode cX2_openTry 28 = .ok (.iastore, 1) := by decide +kernel
theorem dX2_openTry_29 : decode cX2_openTry 29 = .ok (.aload_n 0, 1) := by decide +kernel
theorem dX2_openTry_30 : decode cX2_openTry 30 = .ok (.getfield 29, 3) := by decide +kernel
theorem dX2_openTry_33 : decode cX2_openTry 33 = .ok (.aload_n 0, 1) := by decide +kernel
theorem dX2_openTry_34 : decode cX2_openTry 34 = .ok (.getfield 38, 3) := by decide +kernel
theorem dX2_openTry_37 : decode cX2_openTry 37 = .ok (.iconst 0, 1) := by decide +kernel
theorem dX2_openTry_38 : decode cX2_openTry 38 = .ok (.iastore, 1) := by decide +kernel
theorem dX2_openTry_39 : decode cX2_openTry 39 = .ok (.aload_n 0, 1) := by decide +kernel
theorem dX2_openTry_40 : decode cX2_openTry 40 = .ok (.getfield 32, 3) := by decide +kernel
theorem dX2_openTry_43 : decode cX2_openTry 43 = .ok (.aload_n 0, 1) := by decide +kernel
theorem dX2_openTry_44 : decode cX2_openTry 44 = .ok (.getfield 38, 3) := by decide +kernel
theorem dX2_openTry_47 : decode cX2_openTry 47 = .ok (.iconst 0, 1) := by decide +kernel
theorem dX2_openTry_48 : decode cX2_openTry 48 = .ok (.iastore, 1) := by decide +kernel
theorem dX2_openTry_49 : decode cX2_openTry 49 = .ok (.return_, 1) := by decide +kernel
theorem dX2_phase_0 : decode cX2_phase 0 = .ok (.aload_n 0, 1) := by decide +kernel
theorem dX2_phase_1 : decode cX2_phase 1 = .ok (.getfield 29, 3) := by decide +kernel
theorem dX2_phase_4 : decode cX2_phase 4 = .ok (.aload_n 0, 1) := by decide +kernel
theorem dX2_phase_5 : decode cX2_phase 5 = .ok (.getfield 38, 3) := by decide +kernel
theorem dX2_phase_8 : decode cX2_phase 8 = .ok (.iaload, 1) := by decide +kernel
theorem dX2_phase_9 : decode cX2_phase 9 = .ok (.ireturn, 1) := by decide +kernel
theorem dX2_toCatch_0 : decode cX2_toCatch 0 = .ok (.aload_n 0, 1) := by decide +kernel
theorem dX2_toCatch_1 : decode cX2_toCatch 1 = .ok (.getfield 29, 3) := by decide +kernel
theorem dX2_toCatch_4 : decode cX2_toCatch 4 = .ok (.aload_n 0, 1) := by decide +kernel
theorem dX2_toCatch_5 : decode cX2_toCatch 5 = .ok (.getfield 38, 3) := by decide +kernel
theorem dX2_toCatch_8 : decode cX2_toCatch 8 = .ok (.iconst 1, 1) := by decide +kernel
theorem dX2_toCatch_9 : decode cX2_toCatch 9 = .ok (.iastore, 1) := by decide +kernel
theorem dX2_toCatch_10 : decode cX2_toCatch 10 = .ok (.return_, 1) := by decide +kernel
theorem dX2_toFinally_0 : decode cX2_toFinally 0 = .ok (.aload_n 0, 1) := by decide +kernel
theorem dX2_toFinally_1 : decode cX2_toFinally 1 = .ok (.getfield 29, 3) := by decide +kernel
theorem dX2_toFinally_4 : decode cX2_toFinally 4 = .ok (.aload_n 0, 1) := by decide +kernel
theorem dX2_toFinally_5 : decode cX2_toFinally 5 = .ok (.getfield 38, 3) := by decide +kernel
theorem dX2_toFinally_8 : decode cX2_toFinally 8 = .ok (.iconst 2, 1) := by decide +kernel
theorem dX2_toFinally_9 : decode cX2_toFinally 9 = .ok (.iastore, 1) := by decide +kernel
theorem dX2_toFinally_10 : decode cX2_toFinally 10 = .ok (.aload_n 0, 1) := by decide +kernel
theorem dX2_toFinally_11 : decode cX2_toFinally 11 = .ok (.getfield 32, 3) := by decide +kernel
theorem dX2_toFinally_14 : decode cX2_toFinally 14 = .ok (.aload_n 0, 1) := by decide +kernel
theorem dX2_toFinally_15 : decode cX2_toFinally 15 = .ok (.getfield 38, 3) := by decide +kernel
theorem dX2_toFinally_18 : decode cX2_toFinally 18 = .ok (.iload_n 1, 1) := by decide +kernel
theorem dX2_toFinally_19 : decode cX2_toFinally 19 = .ok (.iastore, 1) := by decide +kernel
theorem dX2_toFinally_20 : decode cX2_toFinally 20 = .ok (.aload_n 0, 1) := by decide +kernel
theorem dX2_toFinally_21 : decode cX2_toFinally 21 = .ok (.getfield 35, 3) := by decide +kernel
theorem dX2_toFinally_24 : decode cX2_toFinally 24 = .ok (.aload_n 0, 1) := by decide +kernel
theorem dX2_toFinally_25 : decode cX2_toFinally 25 = .ok (.getfield 38, 3) := by decide +kernel
theorem dX2_toFinally_28 : decode cX2_toFinally 28 = .ok (.iload_n 2, 1) := by decide +kernel
theorem dX2_toFinally_29 : decode cX2_toFinally 29 = .ok (.iastore, 1) := by decide +kernel
theorem dX2_toFinally_30 : decode cX2_toFinally 30 = .ok (.return_, 1) := by decide +kernel
theorem dX2_tryCode_0 : decode cX2_tryCode 0 = .ok (.aload_n 0, 1) := by decide +kernel
theorem dX2_tryCode_1 : decode cX2_tryCode 1 = .ok (.getfield 26, 3) := by decide +kernel
theorem dX2_tryCode_4 : decode cX2_tryCode 4 = .ok (.aload_n 0, 1) := by decide +kernel
theorem dX2_tryCode_5 : decode cX2_tryCode 5 = .ok (.getfield 38, 3) := by decide +kernel
theorem dX2_tryCode_8 : decode cX2_tryCode 8 = .ok (.iaload, 1) := by decide +kernel
theorem dX2_tryCode_9 : decode cX2_tryCode 9 = .ok (.ireturn, 1) := by decide +kernel
theorem dX2_waitingValue_0 : decode cX2_waitingValue 0 = .ok (.aload_n 0, 1) := by decide +kernel
theorem dX2_waitingValue_1 : decode cX2_waitingValue 1 = .ok (.getfield 35, 3) := by decide +kernel
theorem dX2_waitingValue_4 : decode cX2_waitingValue 4 = .ok (.aload_n 0, 1) := by decide +kernel
theorem dX2_waitingValue_5 : decode cX2_waitingValue 5 = .ok (.getfield 38, 3) := by decide +kernel
theorem dX2_waitingValue_8 : decode cX2_waitingValue 8 = .ok (.iaload, 1) := by decide +kernel
theorem dX2_waitingValue_9 : decode cX2_waitingValue 9 = .ok (.ireturn, 1) := by decide +kernel
theorem dX2_waits_0 : decode cX2_waits 0 = .ok (.aload_n 0, 1) := by decide +kernel
theorem dX2_waits_1 : decode cX2_waits 1 = .ok (.getfield 32, 3) := by decide +kernel
theorem dX2_waits_4 : decode cX2_waits 4 = .ok (.aload_n 0, 1) := by decide +kernel
theorem dX2_waits_5 : decode cX2_waits 5 = .ok (.getfield 38, 3) := by decide +kernel
theorem dX2_waits_8 : decode cX2_waits 8 = .ok (.iaload, 1) := by decide +kernel
theorem dX2_waits_9 : decode cX2_waits 9 = .ok (.ireturn, 1) := by decide +kernel
set_option maxHeartbeats 4000000 in
set_option maxRecDepth 100000 in
theorem g_fclear (l : Launch) (D : va_G) (cy : Nat → ClassId) (sz : Nat) (h0 : Nat) (a1 : Nat) (a2 : Nat) (a3 : Nat) (a4 : Nat) (a5 : Nat) (a6 : Nat) (kd : Int32) (tp : Int32) (bk : Int32) (lk : Int32) (bs : Int32) (ow : Int32) (mt : Int32) (hv : Value) (tr : Nat) (gf3 : Nat → Int32) (gf4 : Nat → Int32) (gf5 : Nat → Int32) (gf6 : Nat → Int32) : Met l yX2_clear (.code yX2_clear cX2_clear 1 none :: TB) ({ frames := 0, cells := 0, slots := 0, locals := 0 }) (va_Pc [.ref h0] (fun U => U.heap.size = sz ∧ va_P D vwCl [(h0, .inr (3, [.int kd, .int tp, .int bk, .int lk, .int bs, .int ow, hv, .int mt, .ref a1, .ref a2, .ref a3, .ref a4, .ref a5, .ref a6, .int (nI tr)]))] U.heap ∧ va_K D vwCl (TY cy) U ∧ va_D (fun _ => True) [(h0, .inr (3, [.int kd, .int tp, .int bk, .int lk, .int bs, .int ow, hv, .int mt, .ref a1, .ref a2, .ref a3, .ref a4, .ref a5, .ref a6, .int (nI tr)]))])) (va_Qv (fun (u : Unit) => True) (fun (u : Unit) t => va_P D vwCl [(h0, .inr (3, [.int kd, .int tp, .int bk, .int 0, .int bs, .int 0, .null, .int mt, .ref a1, .ref a2, .ref a3, .ref a4, .ref a5, .ref a6, .int 0]))] t.heap ∧ va_D (va_A [(h0, .inr (3, [.int kd, .int tp, .int bk, .int lk, .int bs, .int ow, hv, .int mt, .ref a1, .ref a2, .ref a3, .ref a4, .ref a5, .ref a6, .int (nI tr)]))] sz) [(h0, .inr (3, [.int kd, .int tp, .int bk, .int 0, .int bs, .int 0, .null, .int mt, .ref a1, .ref a2, .ref a3, .ref a4, .ref a5, .ref a6, .int 0]))]) (va_A [(h0, .inr (3, [.int kd, .int tp, .int bk, .int lk, .int bs, .int ow, hv, .int mt, .ref a1, .ref a2, .ref a3, .ref a4, .ref a5, .ref a6, .int (nI tr)]))] sz)) 0 0 (va_A [(h0, .inr (3, [.int kd, .int tp, .int bk, .int lk, .int bs, .int ow, hv, .int mt, .ref a1, .ref a2, .ref a3, .ref a4, .ref a5, .ref a6, .int (nI tr)]))] sz) := by
  refine Met.ofW (cc := cX2_clear) (maxL := 1) (ret := none) (by decide) rfl ?_
  intro p e s m args below meth c s₁ B hml hv
  obtain ⟨rfl, hsz, hP, hK, hD0⟩ := hv
  have hx := B.exec
  have hb := B.bytes
  have hr := B.returns
  have hts := atoms_spec (ws := .code yX2_clear cX2_clear 1 none :: TB) B.pre
  have hT : ∀ w ∈ TB, w.before _ s = true := fun w h => hts w (List.mem_cons_of_mem _ h)
  have hown : s.vm.findClass "MakerStarts$Frame" = some m.cls := findClass_of_methodNamed B.named
  have hlocks := B.notSynchronized
  subst hsz
  have hD := hD0.self (sz := s.heap.size)
  generalize hAe : va_A [(h0, .inr (3, [.int kd, .int tp, .int bk, .int lk, .int bs, .int ow, hv, .int mt, .ref a1, .ref a2, .ref a3, .ref a4, .ref a5, .ref a6, .int (nI tr)]))] s.heap.size = A at hD  ⊢
  have hA : ∀ q : Nat, s.heap.size ≤ q → A q := fun q h => by rw [← hAe]; exact Or.inr h
  have hS : va_S A s.heap s.heap [] := va_S.rf
  have hP : va_P D vwCl [(h0, .inr (3, [.int kd, .int tp, .int bk, .int lk, .int bs, .int ow, hv, .int mt, .ref a1, .ref a2, .ref a3, .ref a4, .ref a5, .ref a6, .int (nI tr)]))] s.heap := hP
  have hl := lv_entry ([.ref h0]) (n := 1) (Nat.le_of_ble_eq_true rfl)
  rw [lg_entry_eq]
  generalize (lg_sl ([.ref h0]) ++ List.replicate (1 - (lg_sl ([.ref h0])).length) Slot.unset).toArray = ls at hl ⊢
  have hl : lv_has ls 1 [(0, .ref h0)] := hl
  refine lv_aload_n hx hb dX2_clear_0 rfl (lv_at hl 0 rfl) ?_
  refine lv_iconst (v := 0) hx hb dX2_clear_1 (by decide) ?_
  refine va_put (D := D) (ci := 3) (v := .int 0) (ty := .boolean) (C := RX2) (T := TX2) (N := 15) hx hb hT i_TX2 tyX2 tyX2_ok nmX2 hown hK hP hD hS 0 rfl rfl 5 (by decide) (hT _ t_422) (fun _ h9 => h9) rfl (by decide +kernel) rfl rfl (Nat.le_of_ble_eq_true rfl) dX2_clear_2 (fun H locs hP hD hS => ?_)
  have hP : va_P D vwCl [(h0, .inr (3, [.int kd, .int tp, .int bk, .int lk, .int bs, .int 0, hv, .int mt, .ref a1, .ref a2, .ref a3, .ref a4, .ref a5, .ref a6, .int (nI tr)]))] H := hP
  have hD : va_D A [(h0, .inr (3, [.int kd, .int tp, .int bk, .int lk, .int bs, .int 0, hv, .int mt, .ref a1, .ref a2, .ref a3, .ref a4, .ref a5, .ref a6, .int (nI tr)]))] := hD
  refine lv_aload_n hx hb dX2_clear_5 rfl (lv_at hl 0 rfl) ?_
  refine lv_iconst (v := 0) hx hb dX2_clear_6 (by decide) ?_
  refine va_put (D := D) (ci := 3) (v := .int 0) (ty := .int) (C := RX2) (T := TX2) (N := 15) hx hb hT i_TX2 tyX2 tyX2_ok nmX2 hown hK hP hD hS 0 rfl rfl 3 (by decide) (hT _ t_419) (fun _ h9 => h9) rfl (by decide +kernel) rfl rfl (Nat.le_of_ble_eq_true rfl) dX2_clear_7 (fun H locs hP hD hS => ?_)
  have hP : va_P D vwCl [(h0, .inr (3, [.int kd, .int tp, .int bk, .int 0, .int bs, .int 0, hv, .int mt, .ref a1, .ref a2, .ref a3, .ref a4, .ref a5, .ref a6, .int (nI tr)]))] H := hP
  have hD : va_D A [(h0, .inr (3, [.int kd, .int tp, .int bk, .int 0, .int bs, .int 0, hv, .int mt, .ref a1, .ref a2, .ref a3, .ref a4, .ref a5, .ref a6, .int (nI tr)]))] := hD
  refine lv_aload_n hx hb dX2_clear_10 rfl (lv_at hl 0 rfl) ?_
  refine lv_null hx hb dX2_clear_11 ?_
  refine va_put (D := D) (ci := 3) (v := .null) (ty := .object "MakerStarts$Frame") (C := RX2) (T := TX2) (N := 15) hx hb hT i_TX2 tyX2 tyX2_ok nmX2 hown hK hP hD hS 0 rfl rfl 6 (by decide) (hT _ t_424) (fun _ h9 => h9) rfl (by decide +kernel) rfl rfl (Nat.le_of_ble_eq_true rfl) dX2_clear_12 (fun H locs hP hD hS => ?_)
  have hP : va_P D vwCl [(h0, .inr (3, [.int kd, .int tp, .int bk, .int 0, .int bs, .int 0, .null, .int mt, .ref a1, .ref a2, .ref a3, .ref a4, .ref a5, .ref a6, .int (nI tr)]))] H := hP
  have hD : va_D A [(h0, .inr (3, [.int kd, .int tp, .int bk, .int 0, .int bs, .int 0, .null, .int mt, .ref a1, .ref a2, .ref a3, .ref a4, .ref a5, .ref a6, .int (nI tr)]))] := hD
  refine lv_aload_n hx hb dX2_clear_15 rfl (lv_at hl 0 rfl) ?_
  refine lv_iconst (v := 0) hx hb dX2_clear_16 (by decide) ?_
  refine va_put (D := D) (ci := 3) (v := .int 0) (ty := .int) (C := RX2) (T := TX2) (N := 15) hx hb hT i_TX2 tyX2 tyX2_ok nmX2 hown hK hP hD hS 0 rfl rfl 14 (by decide) (hT _ t_436) (fun _ h9 => h9) rfl (by decide +kernel) rfl rfl (Nat.le_of_ble_eq_true rfl) dX2_clear_17 (fun H locs hP hD hS => ?_)
  have hP : va_P D vwCl [(h0, .inr (3, [.int kd, .int tp, .int bk, .int 0, .int bs, .int 0, .null, .int mt, .ref a1, .ref a2, .ref a3, .ref a4, .ref a5, .ref a6, .int 0]))] H := hP
  have hD : va_D A [(h0, .inr (3, [.int kd, .int tp, .int bk, .int 0, .int bs, .int 0, .null, .int mt, .ref a1, .ref a2, .ref a3, .ref a4, .ref a5, .ref a6, .int 0]))] := hD
  have hP9 := hP.sub (ws' := [(h0, .inr (3, [.int kd, .int tp, .int bk, .int 0, .int bs, .int 0, .null, .int mt, .ref a1, .ref a2, .ref a3, .ref a4, .ref a5, .ref a6, .int 0]))]) [0] rfl
  have hD9 := hD.sub (ws' := [(h0, .inr (3, [.int kd, .int tp, .int bk, .int 0, .int bs, .int 0, .null, .int mt, .ref a1, .ref a2, .ref a3, .ref a4, .ref a5, .ref a6, .int 0]))]) [0] (by decide) rfl
  refine W.widen (k := 0) (n := 0) (Nat.le_of_ble_eq_true rfl) (Nat.le_of_ble_eq_true rfl) ?_
  exact W.vret hx hb hr (fun t ht hW => ⟨⟨(), rfl, trivial, by rw [ht]; exact hP9, hD9⟩, hS.F ht⟩) hS.2.2 dX2_clear_20

set_option maxHeartbeats 4000000 in
set_option maxRecDepth 100000 in
theorem g_tryCode (l : Launch) (D : va_G) (cy : Nat → ClassId) (sz : Nat) (h0 : Nat) (a1 : Nat) (a2 : Nat) (a3 : Nat) (a4 : Nat) (a5 : Nat) (a6 : Nat) (kd : Int32) (tp : Int32) (bk : Int32) (lk : Int32) (bs : Int32) (ow : Int32) (mt : Int32) (hv : Value) (tr : Nat) (gf3 : Nat → Int32) (gf4 : Nat → Int32) (gf5 : Nat → Int32) (gf6 : Nat → Int32) (htr : tr ≤ 8) : Met l yX2_tryCode (.code yX2_tryCode cX2_tryCode 1 (some .int) :: TB) ({ frames := 0, cells := 0, slots := 0, locals := 0 }) (va_Pc [.ref h0] (fun U => U.heap.size = sz ∧ va_P D vwCl [(h0, .inr (3, [.int kd, .int tp, .int bk, .int lk, .int bs, .int ow, hv, .int mt, .ref a1, .ref a2, .ref a3, .ref a4, .ref a5, .ref a6, .int (nI tr)])), (a3, .inl (cy 1, 9, .inl gf3)), (a4, .inl (cy 1, 9, .inl gf4)), (a5, .inl (cy 1, 9, .inl gf5)), (a6, .inl (cy 1, 9, .inl gf6))] U.heap ∧ va_K D vwCl (TY cy) U ∧ va_D (fun _ => True) [(h0, .inr (3, [.int kd, .int tp, .int bk, .int lk, .int bs, .int ow, hv, .int mt, .ref a1, .ref a2, .ref a3, .ref a4, .ref a5, .ref a6, .int (nI tr)])), (a3, .inl (cy 1, 9, .inl gf3)), (a4, .inl (cy 1, 9, .inl gf4)), (a5, .inl (cy 1, 9, .inl gf5)), (a6, .inl (cy 1, 9, .inl gf6))])) (va_Qi (fun (r : Int32) (u : Unit) => True) (fun (u : Unit) t => va_P D vwCl [(h0, .inr (3, [.int kd, .int tp, .int bk, .int lk, .int bs, .int ow, hv, .int mt, .ref a1, .ref a2, .ref a3, .ref a4, .ref a5, .ref a6, .int (nI tr)])), (a3, .inl (cy 1, 9, .inl gf3)), (a4, .inl (cy 1, 9, .inl gf4)), (a5, .inl (cy 1, 9, .inl gf5)), (a6, .inl (cy 1, 9, .inl gf6))] t.heap ∧ va_D (va_A [(h0, .inr (3, [.int kd, .int tp, .int bk, .int lk, .int bs, .int ow, hv, .int mt, .ref a1, .ref a2, .ref a3, .ref a4, .ref a5, .ref a6, .int (nI tr)])), (a3, .inl (cy 1, 9, .inl gf3)), (a4, .inl (cy 1, 9, .inl gf4)), (a5, .inl (cy 1, 9, .inl gf5)), (a6, .inl (cy 1, 9, .inl gf6))] sz) [(h0, .inr (3, [.int kd, .int tp, .int bk, .int lk, .int bs, .int ow, hv, .int mt, .ref a1, .ref a2, .ref a3, .ref a4, .ref a5, .ref a6, .int (nI tr)])), (a3, .inl (cy 1, 9, .inl gf3)), (a4, .inl (cy 1, 9, .inl gf4)), (a5, .inl (cy 1, 9, .inl gf5)), (a6, .inl (cy 1, 9, .inl gf6))]) (va_A [(h0, .inr (3, [.int kd, .int tp, .int bk, .int lk, .int bs, .int ow, hv, .int mt, .ref a1, .ref a2, .ref a3, .ref a4, .ref a5, .ref a6, .int (nI tr)])), (a3, .inl (cy 1, 9, .inl gf3)), (a4, .inl (cy 1, 9, .inl gf4)), (a5, .inl (cy 1, 9, .inl gf5)), (a6, .inl (cy 1, 9, .inl gf6))] sz)) 0 0 (va_A [(h0, .inr (3, [.int kd, .int tp, .int bk, .int lk, .int bs, .int ow, hv, .int mt, .ref a1, .ref a2, .ref a3, .ref a4, .ref a5, .ref a6, .int (nI tr)])), (a3, .inl (cy 1, 9, .inl gf3)), (a4, .inl (cy 1, 9, .inl gf4)), (a5, .inl (cy 1, 9, .inl gf5)), (a6, .inl (cy 1, 9, .inl gf6))] sz) := by
  refine Met.ofW (cc := cX2_tryCode) (maxL := 1) (ret := (some .int)) (by decide) rfl ?_
  intro p e s m args below meth c s₁ B hml hv
  obtain ⟨rfl, hsz, hP, hK, hD0⟩ := hv
  have hx := B.exec
  have hb := B.bytes
  have hr := B.returns
  have hts := atoms_spec (ws := .code yX2_tryCode cX2_tryCode 1 (some .int) :: TB) B.pre
  have hT : ∀ w ∈ TB, w.before _ s = true := fun w h => hts w (List.mem_cons_of_mem _ h)
  have hown : s.vm.findClass "MakerStarts$Frame" = some m.cls := findClass_of_methodNamed B.named
  have hlocks := B.notSynchronized
  subst hsz
  have hD := hD0.self (sz := s.heap.size)
  generalize hAe : va_A [(h0, .inr (3, [.int kd, .int tp, .int bk, .int lk, .int bs, .int ow, hv, .int mt, .ref a1, .ref a2, .ref a3, .ref a4, .ref a5, .ref a6, .int (nI tr)])), (a3, .inl (cy 1, 9, .inl gf3)), (a4, .inl (cy 1, 9, .inl gf4)), (a5, .inl (cy 1, 9, .inl gf5)), (a6, .inl (cy 1, 9, .inl gf6))] s.heap.size = A at hD  ⊢
  have hA : ∀ q : Nat, s.heap.size ≤ q → A q := fun q h => by rw [← hAe]; exact Or.inr h
  have hS : va_S A s.heap s.heap [] := va_S.rf
  have hP : va_P D vwCl [(h0, .inr (3, [.int kd, .int tp, .int bk, .int lk, .int bs, .int ow, hv, .int mt, .ref a1, .ref a2, .ref a3, .ref a4, .ref a5, .ref a6, .int (nI tr)])), (a3, .inl (cy 1, 9, .inl gf3)), (a4, .inl (cy 1, 9, .inl gf4)), (a5, .inl (cy 1, 9, .inl gf5)), (a6, .inl (cy 1, 9, .inl gf6))] s.heap := hP
  have hl := lv_entry ([.ref h0]) (n := 1) (Nat.le_of_ble_eq_true rfl)
  rw [lg_entry_eq]
  generalize (lg_sl ([.ref h0]) ++ List.replicate (1 - (lg_sl ([.ref h0])).length) Slot.unset).toArray = ls at hl ⊢
  have hl : lv_has ls 1 [(0, .ref h0)] := hl
  refine lv_aload_n hx hb dX2_tryCode_0 rfl (lv_at hl 0 rfl) ?_
  refine va_get (D := D) (ci := 3) (v := .ref a3) (C := RX2) (T := TX2) (N := 15) hx hb hT i_TX2 hown hK hP 0 rfl rfl 10 (by decide) (hT _ t_432) (fun _ h9 => h9) rfl dX2_tryCode_1 ?_
  refine lv_aload_n hx hb dX2_tryCode_4 rfl (lv_at hl 0 rfl) ?_
  refine va_get (D := D) (ci := 3) (v := .int (nI tr)) (C := RX2) (T := TX2) (N := 15) hx hb hT i_TX2 hown hK hP 0 rfl rfl 14 (by decide) (hT _ t_436) (fun _ h9 => h9) rfl dX2_tryCode_5 ?_
  refine va_iald hx hb hK hP 1 1 rfl rfl (vp_in_nI (by omega) (by decide)) dX2_tryCode_8 ?_
  refine lv_topi (fun z1 e2 => ?_)
  have hP9 := hP.sub (ws' := [(h0, .inr (3, [.int kd, .int tp, .int bk, .int lk, .int bs, .int ow, hv, .int mt, .ref a1, .ref a2, .ref a3, .ref a4, .ref a5, .ref a6, .int (nI tr)])), (a3, .inl (cy 1, 9, .inl gf3)), (a4, .inl (cy 1, 9, .inl gf4)), (a5, .inl (cy 1, 9, .inl gf5)), (a6, .inl (cy 1, 9, .inl gf6))]) [0, 1, 2, 3, 4] rfl
  have hD9 := hD.sub (ws' := [(h0, .inr (3, [.int kd, .int tp, .int bk, .int lk, .int bs, .int ow, hv, .int mt, .ref a1, .ref a2, .ref a3, .ref a4, .ref a5, .ref a6, .int (nI tr)])), (a3, .inl (cy 1, 9, .inl gf3)), (a4, .inl (cy 1, 9, .inl gf4)), (a5, .inl (cy 1, 9, .inl gf5)), (a6, .inl (cy 1, 9, .inl gf6))]) [0, 1, 2, 3, 4] (by decide) rfl
  refine W.widen (k := 0) (n := 0) (Nat.le_of_ble_eq_true rfl) (Nat.le_of_ble_eq_true rfl) ?_
  exact W.iret (v := z1) hx hb hr (fun t ht hW => ⟨⟨z1, (), rfl, trivial, by rw [ht]; exact hP9, hD9⟩, hS.F ht⟩) hS.2.2 dX2_tryCode_9

set_option maxHeartbeats 4000000 in
set_option maxRecDepth 100000 in
theorem g_phase (l : Launch) (D : va_G) (cy : Nat → ClassId) (sz : Nat) (h0 : Nat) (a1 : Nat) (a2 : Nat) (a3 : Nat) (a4 : Nat) (a5 : Nat) (a6 : Nat) (kd : Int32) (tp : Int32) (bk : Int32) (lk : Int32) (bs : Int32) (ow : Int32) (mt : Int32) (hv : Value) (tr : Nat) (gf3 : Nat → Int32) (gf4 : Nat → Int32) (gf5 : Nat → Int32) (gf6 : Nat → Int32) (htr : tr ≤ 8) : Met l yX2_phase (.code yX2_phase cX2_phase 1 (some .int) :: TB) ({ frames := 0, cells := 0, slots := 0, locals := 0 }) (va_Pc [.ref h0] (fun U => U.heap.size = sz ∧ va_P D vwCl [(h0, .inr (3, [.int kd, .int tp, .int bk, .int lk, .int bs, .int ow, hv, .int mt, .ref a1, .ref a2, .ref a3, .ref a4, .ref a5, .ref a6, .int (nI tr)])), (a3, .inl (cy 1, 9, .inl gf3)), (a4, .inl (cy 1, 9, .inl gf4)), (a5, .inl (cy 1, 9, .inl gf5)), (a6, .inl (cy 1, 9, .inl gf6))] U.heap ∧ va_K D vwCl (TY cy) U ∧ va_D (fun _ => True) [(h0, .inr (3, [.int kd, .int tp, .int bk, .int lk, .int bs, .int ow, hv, .int mt, .ref a1, .ref a2, .ref a3, .ref a4, .ref a5, .ref a6, .int (nI tr)])), (a3, .inl (cy 1, 9, .inl gf3)), (a4, .inl (cy 1, 9, .inl gf4)), (a5, .inl (cy 1, 9, .inl gf5)), (a6, .inl (cy 1, 9, .inl gf6))])) (va_Qi (fun (r : Int32) (u : Unit) => True) (fun (u : Unit) t => va_P D vwCl [(h0, .inr (3, [.int kd, .int tp, .int bk, .int lk, .int bs, .int ow, hv, .int mt, .ref a1, .ref a2, .ref a3, .ref a4, .ref a5, .ref a6, .int (nI tr)])), (a3, .inl (cy 1, 9, .inl gf3)), (a4, .inl (cy 1, 9, .inl gf4)), (a5, .inl (cy 1, 9, .inl gf5)), (a6, .inl (cy 1, 9, .inl gf6))] t.heap ∧ va_D (va_A [(h0, .inr (3, [.int kd, .int tp, .int bk, .int lk, .int bs, .int ow, hv, .int mt, .ref a1, .ref a2, .ref a3, .ref a4, .ref a5, .ref a6, .int (nI tr)])), (a3, .inl (cy 1, 9, .inl gf3)), (a4, .inl (cy 1, 9, .inl gf4)), (a5, .inl (cy 1, 9, .inl gf5)), (a6, .inl (cy 1, 9, .inl gf6))] sz) [(h0, .inr (3, [.int kd, .int tp, .int bk, .int lk, .int bs, .int ow, hv, .int mt, .ref a1, .ref a2, .ref a3, .ref a4, .ref a5, .ref a6, .int (nI tr)])), (a3, .inl (cy 1, 9, .inl gf3)), (a4, .inl (cy 1, 9, .inl gf4)), (a5, .inl (cy 1, 9, .inl gf5)), (a6, .inl (cy 1, 9, .inl gf6))]) (va_A [(h0, .inr (3, [.int kd, .int tp, .int bk, .int lk, .int bs, .int ow, hv, .int mt, .ref a1, .ref a2, .ref a3, .ref a4, .ref a5, .ref a6, .int (nI tr)])), (a3, .inl (cy 1, 9, .inl gf3)), (a4, .inl (cy 1, 9, .inl gf4)), (a5, .inl (cy 1, 9, .inl gf5)), (a6, .inl (cy 1, 9, .inl gf6))] sz)) 0 0 (va_A [(h0, .inr (3, [.int kd, .int tp, .int bk, .int lk, .int bs, .int ow, hv, .int mt, .ref a1, .ref a2, .ref a3, .ref a4, .ref a5, .ref a6, .int (nI tr)])), (a3, .inl (cy 1, 9, .inl gf3)), (a4, .inl (cy 1, 9, .inl gf4)), (a5, .inl (cy 1, 9, .inl gf5)), (a6, .inl (cy 1, 9, .inl gf6))] sz) := by
  refine Met.ofW (cc := cX2_phase) (maxL := 1) (ret := (some .int)) (by decide) rfl ?_
  intro p e s m args below meth c s₁ B hml hv
  obtain ⟨rfl, hsz, hP, hK, hD0⟩ := hv
  have hx := B.exec
  have hb := B.bytes
  have hr := B.returns
  have hts := atoms_spec (ws := .code yX2_phase cX2_phase 1 (some .int) :: TB) B.pre
  have hT : ∀ w ∈ TB, w.before _ s = true := fun w h => hts w (List.mem_cons_of_mem _ h)
  have hown : s.vm.findClass "MakerStarts$Frame" = some m.cls := findClass_of_methodNamed B.named
  have hlocks := B.notSynchronized
  subst hsz
  have hD := hD0.self (sz := s.heap.size)
  generalize hAe : va_A [(h0, .inr (3, [.int kd, .int tp, .int bk, .int lk, .int bs, .int ow, hv, .int mt, .ref a1, .ref a2, .ref a3, .ref a4, .ref a5, .ref a6, .int (nI tr)])), (a3, .inl (cy 1, 9, .inl gf3)), (a4, .inl (cy 1, 9, .inl gf4)), (a5, .inl (cy 1, 9, .inl gf5)), (a6, .inl (cy 1, 9, .inl gf6))] s.heap.size = A at hD  ⊢
  have hA : ∀ q : Nat, s.heap.size ≤ q → A q := fun q h => by rw [← hAe]; exact Or.inr h
  have hS : va_S A s.heap s.heap [] := va_S.rf
  have hP : va_P D vwCl [(h0, .inr (3, [.int kd, .int tp, .int bk, .int lk, .int bs, .int ow, hv, .int mt, .ref a1, .ref a2, .ref a3, .ref a4, .ref a5, .ref a6, .int (nI tr)])), (a3, .inl (cy 1, 9, .inl gf3)), (a4, .inl (cy 1, 9, .inl gf4)), (a5, .inl (cy 1, 9, .inl gf5)), (a6, .inl (cy 1, 9, .inl gf6))] s.heap := hP
  have hl := lv_entry ([.ref h0]) (n := 1) (Nat.le_of_ble_eq_true rfl)
  rw [lg_entry_eq]
  generalize (lg_sl ([.ref h0]) ++ List.replicate (1 - (lg_sl ([.ref h0])).length) Slot.unset).toArray = ls at hl ⊢
  have hl : lv_has ls 1 [(0, .ref h0)] := hl
  refine lv_aload_n hx hb dX2_phase_0 rfl (lv_at hl 0 rfl) ?_
  refine va_get (D := D) (ci := 3) (v := .ref a4) (C := RX2) (T := TX2) (N := 15) hx hb hT i_TX2 hown hK hP 0 rfl rfl 11 (by decide) (hT _ t_433) (fun _ h9 => h9) rfl dX2_phase_1 ?_
  refine lv_aload_n hx hb dX2_phase_4 rfl (lv_at hl 0 rfl) ?_
  refine va_get (D := D) (ci := 3) (v := .int (nI tr)) (C := RX2) (T := TX2) (N := 15) hx hb hT i_TX2 hown hK hP 0 rfl rfl 14 (by decide) (hT _ t_436) (fun _ h9 => h9) rfl dX2_phase_5 ?_
  refine va_iald hx hb hK hP 2 1 rfl rfl (vp_in_nI (by omega) (by decide)) dX2_phase_8 ?_
  refine lv_topi (fun z1 e2 => ?_)
  have hP9 := hP.sub (ws' := [(h0, .inr (3, [.int kd, .int tp, .int bk, .int lk, .int bs, .int ow, hv, .int mt, .ref a1, .ref a2, .ref a3, .ref a4, .ref a5, .ref a6, .int (nI tr)])), (a3, .inl (cy 1, 9, .inl gf3)), (a4, .inl (cy 1, 9, .inl gf4)), (a5, .inl (cy 1, 9, .inl gf5)), (a6, .inl (cy 1, 9, .inl gf6))]) [0, 1, 2, 3, 4] rfl
  have hD9 := hD.sub (ws' := [(h0, .inr (3, [.int kd, .int tp, .int bk, .int lk, .int bs, .int ow, hv, .int mt, .ref a1, .ref a2, .ref a3, .ref a4, .ref a5, .ref a6, .int (nI tr)])), (a3, .inl (cy 1, 9, .inl gf3)), (a4, .inl (cy 1, 9, .inl gf4)), (a5, .inl (cy 1, 9, .inl gf5)), (a6, .inl (cy 1, 9, .inl gf6))]) [0, 1, 2, 3, 4] (by decide) rfl
  refine W.widen (k := 0) (n := 0) (Nat.le_of_ble_eq_true rfl) (Nat.le_of_ble_eq_true rfl) ?_
  exact W.iret (v := z1) hx hb hr (fun t ht hW => ⟨⟨z1, (), rfl, trivial, by rw [ht]; exact hP9, hD9⟩, hS.F ht⟩) hS.2.2 dX2_phase_9

set_option maxHeartbeats 4000000 in
set_option maxRecDepth 100000 in
theorem g_waits (l : Launch) (D : va_G) (cy : Nat → ClassId) (sz : Nat) (h0 : Nat) (a1 : Nat) (a2 : Nat) (a3 : Nat) (a4 : Nat) (a5 : Nat) (a6 : Nat) (kd : Int32) (tp : Int32) (bk : Int32) (lk : Int32) (bs : Int32) (ow : Int32) (mt : Int32) (hv : Value) (tr : Nat) (gf3 : Nat → Int32) (gf4 : Nat → Int32) (gf5 : Nat → Int32) (gf6 : Nat → Int32) (htr : tr ≤ 8) : Met l yX2_waits (.code yX2_waits cX2_waits 1 (some .int) :: TB) ({ frames := 0, cells := 0, slots := 0, locals := 0 }) (va_Pc [.ref h0] (fun U => U.heap.size = sz ∧ va_P D vwCl [(h0, .inr (3, [.int kd, .int tp, .int bk, .int lk, .int bs, .int ow, hv, .int mt, .ref a1, .ref a2, .ref a3, .ref a4, .ref a5, .ref a6, .int (nI tr)])), (a3, .inl (cy 1, 9, .inl gf3)), (a4, .inl (cy 1, 9, .inl gf4)), (a5, .inl (cy 1, 9, .inl gf5)), (a6, .inl (cy 1, 9, .inl gf6))] U.heap ∧ va_K D vwCl (TY cy) U ∧ va_D (fun _ => True) [(h0, .inr (3, [.int kd, .int tp, .int bk, .int lk, .int bs, .int ow, hv, .int mt, .ref a1, .ref a2, .ref a3, .ref a4, .ref a5, .ref a6, .int (nI tr)])), (a3, .inl (cy 1, 9, .inl gf3)), (a4, .inl (cy 1, 9, .inl gf4)), (a5, .inl (cy 1, 9, .inl gf5)), (a6, .inl (cy 1, 9, .inl gf6))])) (va_Qi (fun (r : Int32) (u : Unit) => True) (fun (u : Unit) t => va_P D vwCl [(h0, .inr (3, [.int kd, .int tp, .int bk, .int lk, .int bs, .int ow, hv, .int mt, .ref a1, .ref a2, .ref a3, .ref a4, .ref a5, .ref a6, .int (nI tr)])), (a3, .inl (cy 1, 9, .inl gf3)), (a4, .inl (cy 1, 9, .inl gf4)), (a5, .inl (cy 1, 9, .inl gf5)), (a6, .inl (cy 1, 9, .inl gf6))] t.heap ∧ va_D (va_A [(h0, .inr (3, [.int kd, .int tp, .int bk, .int lk, .int bs, .int ow, hv, .int mt, .ref a1, .ref a2, .ref a3, .ref a4, .ref a5, .ref a6, .int (nI tr)])), (a3, .inl (cy 1, 9, .inl gf3)), (a4, .inl (cy 1, 9, .inl gf4)), (a5, .inl (cy 1, 9, .inl gf5)), (a6, .inl (cy 1, 9, .inl gf6))] sz) [(h0, .inr (3, [.int kd, .int tp, .int bk, .int lk, .int bs, .int ow, hv, .int mt, .ref a1, .ref a2, .ref a3, .ref a4, .ref a5, .ref a6, .int (nI tr)])), (a3, .inl (cy 1, 9, .inl gf3)), (a4, .inl (cy 1, 9, .inl gf4)), (a5, .inl (cy 1, 9, .inl gf5)), (a6, .inl (cy 1, 9, .inl gf6))]) (va_A [(h0, .inr (3, [.int kd, .int tp, .int bk, .int lk, .int bs, .int ow, hv, .int mt, .ref a1, .ref a2, .ref a3, .ref a4, .ref a5, .ref a6, .int (nI tr)])), (a3, .inl (cy 1, 9, .inl gf3)), (a4, .inl (cy 1, 9, .inl gf4)), (a5, .inl (cy 1, 9, .inl gf5)), (a6, .inl (cy 1, 9, .inl gf6))] sz)) 0 0 (va_A [(h0, .inr (3, [.int kd, .int tp, .int bk, .int lk, .int bs, .int ow, hv, .int mt, .ref a1, .ref a2, .ref a3, .ref a4, .ref a5, .ref a6, .int (nI tr)])), (a3, .inl (cy 1, 9, .inl gf3)), (a4, .inl (cy 1, 9, .inl gf4)), (a5, .inl (cy 1, 9, .inl gf5)), (a6, .inl (cy 1, 9, .inl gf6))] sz) := by
  refine Met.ofW (cc := cX2_waits) (maxL := 1) (ret := (some .int)) (by decide) rfl ?_
  intro p e s m args below meth c s₁ B hml hv
  obtain ⟨rfl, hsz, hP, hK, hD0⟩ := hv
  have hx := B.exec
  have hb := B.bytes
  have hr := B.returns
  have hts := atoms_spec (ws := .code yX2_waits cX2_waits 1 (some .int) :: TB) B.pre
  have hT : ∀ w ∈ TB, w.before _ s = true := fun w h => hts w (List.mem_cons_of_mem _ h)
  have hown : s.vm.findClass "MakerStarts$Frame" = some m.cls := findClass_of_methodNamed B.named
  have hlocks := B.notSynchronized
  subst hsz
  have hD := hD0.self (sz := s.heap.size)
  generalize hAe : va_A [(h0, .inr (3, [.int kd, .int tp, .int bk, .int lk, .int bs, .int ow, hv, .int mt, .ref a1, .ref a2, .ref a3, .ref a4, .ref a5, .ref a6, .int (nI tr)])), (a3, .inl (cy 1, 9, .inl gf3)), (a4, .inl (cy 1, 9, .inl gf4)), (a5, .inl (cy 1, 9, .inl gf5)), (a6, .inl (cy 1, 9, .inl gf6))] s.heap.size = A at hD  ⊢
  have hA : ∀ q : Nat, s.heap.size ≤ q → A q := fun q h => by rw [← hAe]; exact Or.inr h
  have hS : va_S A s.heap s.heap [] := va_S.rf
  have hP : va_P D vwCl [(h0, .inr (3, [.int kd, .int tp, .int bk, .int lk, .int bs, .int ow, hv, .int mt, .ref a1, .ref a2, .ref a3, .ref a4, .ref a5, .ref a6, .int (nI tr)])), (a3, .inl (cy 1, 9, .inl gf3)), (a4, .inl (cy 1, 9, .inl gf4)), (a5, .inl (cy 1, 9, .inl gf5)), (a6, .inl (cy 1, 9, .inl gf6))] s.heap := hP
  have hl := lv_entry ([.ref h0]) (n := 1) (Nat.le_of_ble_eq_true rfl)
  rw [lg_entry_eq]
  generalize (lg_sl ([.ref h0]) ++ List.replicate (1 - (lg_sl ([.ref h0])).length) Slot.unset).toArray = ls at hl ⊢
  have hl : lv_has ls 1 [(0, .ref h0)] := hl
  refine lv_aload_n hx hb dX2_waits_0 rfl (lv_at hl 0 rfl) ?_
  refine va_get (D := D) (ci := 3) (v := .ref a5) (C := RX2) (T := TX2) (N := 15) hx hb hT i_TX2 hown hK hP 0 rfl rfl 12 (by decide) (hT _ t_434) (fun _ h9 => h9) rfl dX2_waits_1 ?_
  refine lv_aload_n hx hb dX2_waits_4 rfl (lv_at hl 0 rfl) ?_
  refine va_get (D := D) (ci := 3) (v := .int (nI tr)) (C := RX2) (T := TX2) (N := 15) hx hb hT i_TX2 hown hK hP 0 rfl rfl 14 (by decide) (hT _ t_436) (fun _ h9 => h9) rfl dX2_waits_5 ?_
  refine va_iald hx hb hK hP 3 1 rfl rfl (vp_in_nI (by omega) (by decide)) dX2_waits_8 ?_
  refine lv_topi (fun z1 e2 => ?_)
  have hP9 := hP.sub (ws' := [(h0, .inr (3, [.int kd, .int tp, .int bk, .int lk, .int bs, .int ow, hv, .int mt, .ref a1, .ref a2, .ref a3, .ref a4, .ref a5, .ref a6, .int (nI tr)])), (a3, .inl (cy 1, 9, .inl gf3)), (a4, .inl (cy 1, 9, .inl gf4)), (a5, .inl (cy 1, 9, .inl gf5)), (a6, .inl (cy 1, 9, .inl gf6))]) [0, 1, 2, 3, 4] rfl
  have hD9 := hD.sub (ws' := [(h0, .inr (3, [.int kd, .int tp, .int bk, .int lk, .int bs, .int ow, hv, .int mt, .ref a1, .ref a2, .ref a3, .ref a4, .ref a5, .ref a6, .int (nI tr)])), (a3, .inl (cy 1, 9, .inl gf3)), (a4, .inl (cy 1, 9, .inl gf4)), (a5, .inl (cy 1, 9, .inl gf5)), (a6, .inl (cy 1, 9, .inl gf6))]) [0, 1, 2, 3, 4] (by decide) rfl
  refine W.widen (k := 0) (n := 0) (Nat.le_of_ble_eq_true rfl) (Nat.le_of_ble_eq_true rfl) ?_
  exact W.iret (v := z1) hx hb hr (fun t ht hW => ⟨⟨z1, (), rfl, trivial, by rw [ht]; exact hP9, hD9⟩, hS.F ht⟩) hS.2.2 dX2_waits_9

set_option maxHeartbeats 4000000 in
set_option maxRecDepth 100000 in
theorem g_waitingValue (l : Launch) (D : va_G) (cy : Nat → ClassId) (sz : Nat) (h0 : Nat) (a1 : Nat) (a2 : Nat) (a3 : Nat) (a4 : Nat) (a5 : Nat) (a6 : Nat) (kd : Int32) (tp : Int32) (bk : Int32) (lk : Int32) (bs : Int32) (ow : Int32) (mt : Int32) (hv : Value) (tr : Nat) (gf3 : Nat → Int32) (gf4 : Nat → Int32) (gf5 : Nat → Int32) (gf6 : Nat → Int32) (htr : tr ≤ 8) : Met l yX2_waitingValue (.code yX2_waitingValue cX2_waitingValue 1 (some .int) :: TB) ({ frames := 0, cells := 0, slots := 0, locals := 0 }) (va_Pc [.ref h0] (fun U => U.heap.size = sz ∧ va_P D vwCl [(h0, .inr (3, [.int kd, .int tp, .int bk, .int lk, .int bs, .int ow, hv, .int mt, .ref a1, .ref a2, .ref a3, .ref a4, .ref a5, .ref a6, .int (nI tr)])), (a3, .inl (cy 1, 9, .inl gf3)), (a4, .inl (cy 1, 9, .inl gf4)), (a5, .inl (cy 1, 9, .inl gf5)), (a6, .inl (cy 1, 9, .inl gf6))] U.heap ∧ va_K D vwCl (TY cy) U ∧ va_D (fun _ => True) [(h0, .inr (3, [.int kd, .int tp, .int bk, .int lk, .int bs, .int ow, hv, .int mt, .ref a1, .ref a2, .ref a3, .ref a4, .ref a5, .ref a6, .int (nI tr)])), (a3, .inl (cy 1, 9, .inl gf3)), (a4, .inl (cy 1, 9, .inl gf4)), (a5, .inl (cy 1, 9, .inl gf5)), (a6, .inl (cy 1, 9, .inl gf6))])) (va_Qi (fun (r : Int32) (u : Unit) => True) (fun (u : Unit) t => va_P D vwCl [(h0, .inr (3, [.int kd, .int tp, .int bk, .int lk, .int bs, .int ow, hv, .int mt, .ref a1, .ref a2, .ref a3, .ref a4, .ref a5, .ref a6, .int (nI tr)])), (a3, .inl (cy 1, 9, .inl gf3)), (a4, .inl (cy 1, 9, .inl gf4)), (a5, .inl (cy 1, 9, .inl gf5)), (a6, .inl (cy 1, 9, .inl gf6))] t.heap ∧ va_D (va_A [(h0, .inr (3, [.int kd, .int tp, .int bk, .int lk, .int bs, .int ow, hv, .int mt, .ref a1, .ref a2, .ref a3, .ref a4, .ref a5, .ref a6, .int (nI tr)])), (a3, .inl (cy 1, 9, .inl gf3)), (a4, .inl (cy 1, 9, .inl gf4)), (a5, .inl (cy 1, 9, .inl gf5)), (a6, .inl (cy 1, 9, .inl gf6))] sz) [(h0, .inr (3, [.int kd, .int tp, .int bk, .int lk, .int bs, .int ow, hv, .int mt, .ref a1, .ref a2, .ref a3, .ref a4, .ref a5, .ref a6, .int (nI tr)])), (a3, .inl (cy 1, 9, .inl gf3)), (a4, .inl (cy 1, 9, .inl gf4)), (a5, .inl (cy 1, 9, .inl gf5)), (a6, .inl (cy 1, 9, .inl gf6))]) (va_A [(h0, .inr (3, [.int kd, .int tp, .int bk, .int lk, .int bs, .int ow, hv, .int mt, .ref a1, .ref a2, .ref a3, .ref a4, .ref a5, .ref a6, .int (nI tr)])), (a3, .inl (cy 1, 9, .inl gf3)), (a4, .inl (cy 1, 9, .inl gf4)), (a5, .inl (cy 1, 9, .inl gf5)), (a6, .inl (cy 1, 9, .inl gf6))] sz)) 0 0 (va_A [(h0, .inr (3, [.int kd, .int tp, .int bk, .int lk, .int bs, .int ow, hv, .int mt, .ref a1, .ref a2, .ref a3, .ref a4, .ref a5, .ref a6, .int (nI tr)])), (a3, .inl (cy 1, 9, .inl gf3)), (a4, .inl (cy 1, 9, .inl gf4)), (a5, .inl (cy 1, 9, .inl gf5)), (a6, .inl (cy 1, 9, .inl gf6))] sz) := by
  refine Met.ofW (cc := cX2_waitingValue) (maxL := 1) (ret := (some .int)) (by decide) rfl ?_
  intro p e s m args below meth c s₁ B hml hv
  obtain ⟨rfl, hsz, hP, hK, hD0⟩ := hv
  have hx := B.exec
  have hb := B.bytes
  have hr := B.returns
  have hts := atoms_spec (ws := .code yX2_waitingValue cX2_waitingValue 1 (some .int) :: TB) B.pre
  have hT : ∀ w ∈ TB, w.before _ s = true := fun w h => hts w (List.mem_cons_of_mem _ h)
  have hown : s.vm.findClass "MakerStarts$Frame" = some m.cls := findClass_of_methodNamed B.named
  have hlocks := B.notSynchronized
  subst hsz
  have hD := hD0.self (sz := s.heap.size)
  generalize hAe : va_A [(h0, .inr (3, [.int kd, .int tp, .int bk, .int lk, .int bs, .int ow, hv, .int mt, .ref a1, .ref a2, .ref a3, .ref a4, .ref a5, .ref a6, .int (nI tr)])), (a3, .inl (cy 1, 9, .inl gf3)), (a4, .inl (cy 1, 9, .inl gf4)), (a5, .inl (cy 1, 9, .inl gf5)), (a6, .inl (cy 1, 9, .inl gf6))] s.heap.size = A at hD  ⊢
  have hA : ∀ q : Nat, s.heap.size ≤ q → A q := fun q h => by rw [← hAe]; exact Or.inr h
  have hS : va_S A s.heap s.heap [] := va_S.rf
  have hP : va_P D vwCl [(h0, .inr (3, [.int kd, .int tp, .int bk, .int lk, .int bs, .int ow, hv, .int mt, .ref a1, .ref a2, .ref a3, .ref a4, .ref a5, .ref a6, .int (nI tr)])), (a3, .inl (cy 1, 9, .inl gf3)), (a4, .inl (cy 1, 9, .inl gf4)), (a5, .inl (cy 1, 9, .inl gf5)), (a6, .inl (cy 1, 9, .inl gf6))] s.heap := hP
  have hl := lv_entry ([.ref h0]) (n := 1) (Nat.le_of_ble_eq_true rfl)
  rw [lg_entry_eq]
  generalize (lg_sl ([.ref h0]) ++ List.replicate (1 - (lg_sl ([.ref h0])).length) Slot.unset).toArray = ls at hl ⊢
  have hl : lv_has ls 1 [(0, .ref h0)] := hl
  refine lv_aload_n hx hb dX2_waitingValue_0 rfl (lv_at hl 0 rfl) ?_
  refine va_get (D := D) (ci := 3) (v := .ref a6) (C := RX2) (T := TX2) (N := 15) hx hb hT i_TX2 hown hK hP 0 rfl rfl 13 (by decide) (hT _ t_435) (fun _ h9 => h9) rfl dX2_waitingValue_1 ?_
  refine lv_aload_n hx hb dX2_waitingValue_4 rfl (lv_at hl 0 rfl) ?_
  refine va_get (D := D) (ci := 3) (v := .int (nI tr)) (C := RX2) (T := TX2) (N := 15) hx hb hT i_TX2 hown hK hP 0 rfl rfl 14 (by decide) (hT _ t_436) (fun _ h9 => h9) rfl dX2_waitingValue_5 ?_
  refine va_iald hx hb hK hP 4 1 rfl rfl (vp_in_nI (by omega) (by decide)) dX2_waitingValue_8 ?_
  refine lv_topi (fun z1 e2 => ?_)
  have hP9 := hP.sub (ws' := [(h0, .inr (3, [.int kd, .int tp, .int bk, .int lk, .int bs, .int ow, hv, .int mt, .ref a1, .ref a2, .ref a3, .ref a4, .ref a5, .ref a6, .int (nI tr)])), (a3, .inl (cy 1, 9, .inl gf3)), (a4, .inl (cy 1, 9, .inl gf4)), (a5, .inl (cy 1, 9, .inl gf5)), (a6, .inl (cy 1, 9, .inl gf6))]) [0, 1, 2, 3, 4] rfl
  have hD9 := hD.sub (ws' := [(h0, .inr (3, [.int kd, .int tp, .int bk, .int lk, .int bs, .int ow, hv, .int mt, .ref a1, .ref a2, .ref a3, .ref a4, .ref a5, .ref a6, .int (nI tr)])), (a3, .inl (cy 1, 9, .inl gf3)), (a4, .inl (cy 1, 9, .inl gf4)), (a5, .inl (cy 1, 9, .inl gf5)), (a6, .inl (cy 1, 9, .inl gf6))]) [0, 1, 2, 3, 4] (by decide) rfl
  refine W.widen (k := 0) (n := 0) (Nat.le_of_ble_eq_true rfl) (Nat.le_of_ble_eq_true rfl) ?_
  exact W.iret (v := z1) hx hb hr (fun t ht hW => ⟨⟨z1, (), rfl, trivial, by rw [ht]; exact hP9, hD9⟩, hS.F ht⟩) hS.2.2 dX2_waitingValue_9

set_option maxHeartbeats 4000000 in
set_option maxRecDepth 100000 in
theorem g_isTrying (l : Launch) (D : va_G) (cy : Nat → ClassId) (sz : Nat) (h0 : Nat) (a1 : Nat) (a2 : Nat) (a3 : Nat) (a4 : Nat) (a5 : Nat) (a6 : Nat) (kd : Int32) (tp : Int32) (bk : Int32) (lk : Int32) (bs : Int32) (ow : Int32) (mt : Int32) (hv : Value) (tr : Nat) (gf3 : Nat → Int32) (gf4 : Nat → Int32) (gf5 : Nat → Int32) (gf6 : Nat → Int32) : Met l yX2_isTrying (.code yX2_isTrying cX2_isTrying 1 (some .boolean) :: TB) ({ frames := 0, cells := 0, slots := 0, locals := 0 }) (va_Pc [.ref h0] (fun U => U.heap.size = sz ∧ va_P D vwCl [(h0, .inr (3, [.int kd, .int tp, .int bk, .int lk, .int bs, .int ow, hv, .int mt, .ref a1, .ref a2, .ref a3, .ref a4, .ref a5, .ref a6, .int (nI tr)]))] U.heap ∧ va_K D vwCl (TY cy) U ∧ va_D (fun _ => True) [(h0, .inr (3, [.int kd, .int tp, .int bk, .int lk, .int bs, .int ow, hv, .int mt, .ref a1, .ref a2, .ref a3, .ref a4, .ref a5, .ref a6, .int (nI tr)]))])) (va_Qi (fun (r : Int32) (u : Unit) => True) (fun (u : Unit) t => va_P D vwCl [(h0, .inr (3, [.int kd, .int tp, .int bk, .int lk, .int bs, .int ow, hv, .int mt, .ref a1, .ref a2, .ref a3, .ref a4, .ref a5, .ref a6, .int (nI tr)]))] t.heap ∧ va_D (va_A [(h0, .inr (3, [.int kd, .int tp, .int bk, .int lk, .int bs, .int ow, hv, .int mt, .ref a1, .ref a2, .ref a3, .ref a4, .ref a5, .ref a6, .int (nI tr)]))] sz) [(h0, .inr (3, [.int kd, .int tp, .int bk, .int lk, .int bs, .int ow, hv, .int mt, .ref a1, .ref a2, .ref a3, .ref a4, .ref a5, .ref a6, .int (nI tr)]))]) (va_A [(h0, .inr (3, [.int kd, .int tp, .int bk, .int lk, .int bs, .int ow, hv, .int mt, .ref a1, .ref a2, .ref a3, .ref a4, .ref a5, .ref a6, .int (nI tr)]))] sz)) 0 0 (va_A [(h0, .inr (3, [.int kd, .int tp, .int bk, .int lk, .int bs, .int ow, hv, .int mt, .ref a1, .ref a2, .ref a3, .ref a4, .ref a5, .ref a6, .int (nI tr)]))] sz) := by
  refine Met.ofW (cc := cX2_isTrying) (maxL := 1) (ret := (some .boolean)) (by decide) rfl ?_
  intro p e s m args below meth c s₁ B hml hv
  obtain ⟨rfl, hsz, hP, hK, hD0⟩ := hv
  have hx := B.exec
  have hb := B.bytes
  have hr := B.returns
  have hts := atoms_spec (ws := .code yX2_isTrying cX2_isTrying 1 (some .boolean) :: TB) B.pre
  have hT : ∀ w ∈ TB, w.before _ s = true := fun w h => hts w (List.mem_cons_of_mem _ h)
  have hown : s.vm.findClass "MakerStarts$Frame" = some m.cls := findClass_of_methodNamed B.named
  have hlocks := B.notSynchronized
  subst hsz
  have hD := hD0.self (sz := s.heap.size)
  generalize hAe : va_A [(h0, .inr (3, [.int kd, .int tp, .int bk, .int lk, .int bs, .int ow, hv, .int mt, .ref a1, .ref a2, .ref a3, .ref a4, .ref a5, .ref a6, .int (nI tr)]))] s.heap.size = A at hD  ⊢
  have hA : ∀ q : Nat, s.heap.size ≤ q → A q := fun q h => by rw [← hAe]; exact Or.inr h
  have hS : va_S A s.heap s.heap [] := va_S.rf
  have hP : va_P D vwCl [(h0, .inr (3, [.int kd, .int tp, .int bk, .int lk, .int bs, .int ow, hv, .int mt, .ref a1, .ref a2, .ref a3, .ref a4, .ref a5, .ref a6, .int (nI tr)]))] s.heap := hP
  have hl := lv_entry ([.ref h0]) (n := 1) (Nat.le_of_ble_eq_true rfl)
  rw [lg_entry_eq]
  generalize (lg_sl ([.ref h0]) ++ List.replicate (1 - (lg_sl ([.ref h0])).length) Slot.unset).toArray = ls at hl ⊢
  have hl : lv_has ls 1 [(0, .ref h0)] := hl
  refine lv_aload_n hx hb dX2_isTrying_0 rfl (lv_at hl 0 rfl) ?_
  refine va_get (D := D) (ci := 3) (v := .int (nI tr)) (C := RX2) (T := TX2) (N := 15) hx hb hT i_TX2 hown hK hP 0 rfl rfl 14 (by decide) (hT _ t_436) (fun _ h9 => h9) rfl dX2_isTrying_1 ?_
  refine lv_if_le (tgt := 20) hx hb dX2_isTrying_4 (by decide) (fun c1 => ?_) (fun c1 => ?_)
  · refine lv_iconst (v := 0) hx hb dX2_isTrying_20 (by decide) ?_
    have hP9 := hP.sub (ws' := [(h0, .inr (3, [.int kd, .int tp, .int bk, .int lk, .int bs, .int ow, hv, .int mt, .ref a1, .ref a2, .ref a3, .ref a4, .ref a5, .ref a6, .int (nI tr)]))]) [0] rfl
    have hD9 := hD.sub (ws' := [(h0, .inr (3, [.int kd, .int tp, .int bk, .int lk, .int bs, .int ow, hv, .int mt, .ref a1, .ref a2, .ref a3, .ref a4, .ref a5, .ref a6, .int (nI tr)]))]) [0] (by decide) rfl
    refine W.widen (k := 0) (n := 0) (Nat.le_of_ble_eq_true rfl) (Nat.le_of_ble_eq_true rfl) ?_
    exact W.zret (v := 0) hx hb hr rfl (fun t ht hW => ⟨⟨0, (), rfl, trivial, by rw [ht]; exact hP9, hD9⟩, hS.F ht⟩) hS.2.2 dX2_isTrying_21
  · refine lv_aload_n hx hb dX2_isTrying_7 rfl (lv_at hl 0 rfl) ?_
    refine va_get (D := D) (ci := 3) (v := .int (nI tr)) (C := RX2) (T := TX2) (N := 15) hx hb hT i_TX2 hown hK hP 0 rfl rfl 14 (by decide) (hT _ t_436) (fun _ h9 => h9) rfl dX2_isTrying_8 ?_
    refine lv_bipush (v := 8) hx hb dX2_isTrying_11 (by decide) ?_
    refine lv_icmp_gt (tgt := 20) hx hb dX2_isTrying_13 (by decide) (fun c2 => ?_) (fun c2 => ?_)
    · refine lv_iconst (v := 0) hx hb dX2_isTrying_20 (by decide) ?_
      have hP9 := hP.sub (ws' := [(h0, .inr (3, [.int kd, .int tp, .int bk, .int lk, .int bs, .int ow, hv, .int mt, .ref a1, .ref a2, .ref a3, .ref a4, .ref a5, .ref a6, .int (nI tr)]))]) [0] rfl
      have hD9 := hD.sub (ws' := [(h0, .inr (3, [.int kd, .int tp, .int bk, .int lk, .int bs, .int ow, hv, .int mt, .ref a1, .ref a2, .ref a3, .ref a4, .ref a5, .ref a6, .int (nI tr)]))]) [0] (by decide) rfl
      refine W.widen (k := 0) (n := 0) (Nat.le_of_ble_eq_true rfl) (Nat.le_of_ble_eq_true rfl) ?_
      exact W.zret (v := 0) hx hb hr rfl (fun t ht hW => ⟨⟨0, (), rfl, trivial, by rw [ht]; exact hP9, hD9⟩, hS.F ht⟩) hS.2.2 dX2_isTrying_21
    · refine lv_iconst (v := 1) hx hb dX2_isTrying_16 (by decide) ?_
      refine lv_goto (tgt := 21) hx hb dX2_isTrying_17 (by decide) ?_
      have hP9 := hP.sub (ws' := [(h0, .inr (3, [.int kd, .int tp, .int bk, .int lk, .int bs, .int ow, hv, .int mt, .ref a1, .ref a2, .ref a3, .ref a4, .ref a5, .ref a6, .int (nI tr)]))]) [0] rfl
      have hD9 := hD.sub (ws' := [(h0, .inr (3, [.int kd, .int tp, .int bk, .int lk, .int bs, .int ow, hv, .int mt, .ref a1, .ref a2, .ref a3, .ref a4, .ref a5, .ref a6, .int (nI tr)]))]) [0] (by decide) rfl
      refine W.widen (k := 0) (n := 0) (Nat.le_of_ble_eq_true rfl) (Nat.le_of_ble_eq_true rfl) ?_
      exact W.zret (v := 1) hx hb hr rfl (fun t ht hW => ⟨⟨1, (), rfl, trivial, by rw [ht]; exact hP9, hD9⟩, hS.F ht⟩) hS.2.2 dX2_isTrying_21

set_option maxHeartbeats 4000000 in
set_option maxRecDepth 100000 in
theorem g_toCatch (l : Launch) (D : va_G) (cy : Nat → ClassId) (sz : Nat) (h0 : Nat) (a1 : Nat) (a2 : Nat) (a3 : Nat) (a4 : Nat) (a5 : Nat) (a6 : Nat) (kd : Int32) (tp : Int32) (bk : Int32) (lk : Int32) (bs : Int32) (ow : Int32) (mt : Int32) (hv : Value) (tr : Nat) (gf3 : Nat → Int32) (gf4 : Nat → Int32) (gf5 : Nat → Int32) (gf6 : Nat → Int32) (htr : tr ≤ 8) : Met l yX2_toCatch (.code yX2_toCatch cX2_toCatch 1 none :: TB) ({ frames := 0, cells := 0, slots := 0, locals := 0 }) (va_Pc [.ref h0] (fun U => U.heap.size = sz ∧ va_P D vwCl [(h0, .inr (3, [.int kd, .int tp, .int bk, .int lk, .int bs, .int ow, hv, .int mt, .ref a1, .ref a2, .ref a3, .ref a4, .ref a5, .ref a6, .int (nI tr)])), (a3, .inl (cy 1, 9, .inl gf3)), (a4, .inl (cy 1, 9, .inl gf4)), (a5, .inl (cy 1, 9, .inl gf5)), (a6, .inl (cy 1, 9, .inl gf6))] U.heap ∧ va_K D vwCl (TY cy) U ∧ va_D (fun _ => True) [(h0, .inr (3, [.int kd, .int tp, .int bk, .int lk, .int bs, .int ow, hv, .int mt, .ref a1, .ref a2, .ref a3, .ref a4, .ref a5, .ref a6, .int (nI tr)])), (a3, .inl (cy 1, 9, .inl gf3)), (a4, .inl (cy 1, 9, .inl gf4)), (a5, .inl (cy 1, 9, .inl gf5)), (a6, .inl (cy 1, 9, .inl gf6))])) (va_Qv (fun (u : (Nat → Int32) × (Nat → Int32) × (Nat → Int32) × (Nat → Int32)) => True) (fun (u : (Nat → Int32) × (Nat → Int32) × (Nat → Int32) × (Nat → Int32)) t => va_P D vwCl [(h0, .inr (3, [.int kd, .int tp, .int bk, .int lk, .int bs, .int ow, hv, .int mt, .ref a1, .ref a2, .ref a3, .ref a4, .ref a5, .ref a6, .int (nI tr)])), (a3, .inl (cy 1, 9, .inl u.1)), (a4, .inl (cy 1, 9, .inl u.2.1)), (a5, .inl (cy 1, 9, .inl u.2.2.1)), (a6, .inl (cy 1, 9, .inl u.2.2.2))] t.heap ∧ va_D (va_A [(h0, .inr (3, [.int kd, .int tp, .int bk, .int lk, .int bs, .int ow, hv, .int mt, .ref a1, .ref a2, .ref a3, .ref a4, .ref a5, .ref a6, .int (nI tr)])), (a3, .inl (cy 1, 9, .inl gf3)), (a4, .inl (cy 1, 9, .inl gf4)), (a5, .inl (cy 1, 9, .inl gf5)), (a6, .inl (cy 1, 9, .inl gf6))] sz) [(h0, .inr (3, [.int kd, .int tp, .int bk, .int lk, .int bs, .int ow, hv, .int mt, .ref a1, .ref a2, .ref a3, .ref a4, .ref a5, .ref a6, .int (nI tr)])), (a3, .inl (cy 1, 9, .inl u.1)), (a4, .inl (cy 1, 9, .inl u.2.1)), (a5, .inl (cy 1, 9, .inl u.2.2.1)), (a6, .inl (cy 1, 9, .inl u.2.2.2))]) (va_A [(h0, .inr (3, [.int kd, .int tp, .int bk, .int lk, .int bs, .int ow, hv, .int mt, .ref a1, .ref a2, .ref a3, .ref a4, .ref a5, .ref a6, .int (nI tr)])), (a3, .inl (cy 1, 9, .inl gf3)), (a4, .inl (cy 1, 9, .inl gf4)), (a5, .inl (cy 1, 9, .inl gf5)), (a6, .inl (cy 1, 9, .inl gf6))] sz)) 0 0 (va_A [(h0, .inr (3, [.int kd, .int tp, .int bk, .int lk, .int bs, .int ow, hv, .int mt, .ref a1, .ref a2, .ref a3, .ref a4, .ref a5, .ref a6, .int (nI tr)])), (a3, .inl (cy 1, 9, .inl gf3)), (a4, .inl (cy 1, 9, .inl gf4)), (a5, .inl (cy 1, 9, .inl gf5)), (a6, .inl (cy 1, 9, .inl gf6))] sz) := by
  refine Met.ofW (cc := cX2_toCatch) (maxL := 1) (ret := none) (by decide) rfl ?_
  intro p e s m args below meth c s₁ B hml hv
  obtain ⟨rfl, hsz, hP, hK, hD0⟩ := hv
  have hx := B.exec
  have hb := B.bytes
  have hr := B.returns
  have hts := atoms_spec (ws := .code yX2_toCatch cX2_toCatch 1 none :: TB) B.pre
  have hT : ∀ w ∈ TB, w.before _ s = true := fun w h => hts w (List.mem_cons_of_mem _ h)
  have hown : s.vm.findClass "MakerStarts$Frame" = some m.cls := findClass_of_methodNamed B.named
  have hlocks := B.notSynchronized
  subst hsz
  have hD := hD0.self (sz := s.heap.size)
  generalize hAe : va_A [(h0, .inr (3, [.int kd, .int tp, .int bk, .int lk, .int bs, .int ow, hv, .int mt, .ref a1, .ref a2, .ref a3, .ref a4, .ref a5, .ref a6, .int (nI tr)])), (a3, .inl (cy 1, 9, .inl gf3)), (a4, .inl (cy 1, 9, .inl gf4)), (a5, .inl (cy 1, 9, .inl gf5)), (a6, .inl (cy 1, 9, .inl gf6))] s.heap.size = A at hD  ⊢
  have hA : ∀ q : Nat, s.heap.size ≤ q → A q := fun q h => by rw [← hAe]; exact Or.inr h
  have hS : va_S A s.heap s.heap [] := va_S.rf
  have hP : va_P D vwCl [(h0, .inr (3, [.int kd, .int tp, .int bk, .int lk, .int bs, .int ow, hv, .int mt, .ref a1, .ref a2, .ref a3, .ref a4, .ref a5, .ref a6, .int (nI tr)])), (a3, .inl (cy 1, 9, .inl gf3)), (a4, .inl (cy 1, 9, .inl gf4)), (a5, .inl (cy 1, 9, .inl gf5)), (a6, .inl (cy 1, 9, .inl gf6))] s.heap := hP
  have hl := lv_entry ([.ref h0]) (n := 1) (Nat.le_of_ble_eq_true rfl)
  rw [lg_entry_eq]
  generalize (lg_sl ([.ref h0]) ++ List.replicate (1 - (lg_sl ([.ref h0])).length) Slot.unset).toArray = ls at hl ⊢
  have hl : lv_has ls 1 [(0, .ref h0)] := hl
  refine lv_aload_n hx hb dX2_toCatch_0 rfl (lv_at hl 0 rfl) ?_
  refine va_get (D := D) (ci := 3) (v := .ref a4) (C := RX2) (T := TX2) (N := 15) hx hb hT i_TX2 hown hK hP 0 rfl rfl 11 (by decide) (hT _ t_433) (fun _ h9 => h9) rfl dX2_toCatch_1 ?_
  refine lv_aload_n hx hb dX2_toCatch_4 rfl (lv_at hl 0 rfl) ?_
  refine va_get (D := D) (ci := 3) (v := .int (nI tr)) (C := RX2) (T := TX2) (N := 15) hx hb hT i_TX2 hown hK hP 0 rfl rfl 14 (by decide) (hT _ t_436) (fun _ h9 => h9) rfl dX2_toCatch_5 ?_
  refine lv_iconst (v := 1) hx hb dX2_toCatch_8 (by decide) ?_
  refine va_iast hx hb hK hP hD hS 2 1 rfl rfl (vp_in_nI (by omega) (by decide)) dX2_toCatch_9 (fun H locs hP hD hS => ?_)
  have hP : va_P D vwCl [(h0, .inr (3, [.int kd, .int tp, .int bk, .int lk, .int bs, .int ow, hv, .int mt, .ref a1, .ref a2, .ref a3, .ref a4, .ref a5, .ref a6, .int (nI tr)])), (a3, .inl (cy 1, 9, .inl gf3)), (a4, .inl (cy 1, 9, .inl (upd gf4 ((nI tr) : Int32).toNatClampNeg 1))), (a5, .inl (cy 1, 9, .inl gf5)), (a6, .inl (cy 1, 9, .inl gf6))] H := hP
  have hD : va_D A [(h0, .inr (3, [.int kd, .int tp, .int bk, .int lk, .int bs, .int ow, hv, .int mt, .ref a1, .ref a2, .ref a3, .ref a4, .ref a5, .ref a6, .int (nI tr)])), (a3, .inl (cy 1, 9, .inl gf3)), (a4, .inl (cy 1, 9, .inl (upd gf4 ((nI tr) : Int32).toNatClampNeg 1))), (a5, .inl (cy 1, 9, .inl gf5)), (a6, .inl (cy 1, 9, .inl gf6))] := hD
  generalize hff1 : (upd gf4 ((nI tr) : Int32).toNatClampNeg 1) = f1 at hP hD
  have hP9 := hP.sub (ws' := [(h0, .inr (3, [.int kd, .int tp, .int bk, .int lk, .int bs, .int ow, hv, .int mt, .ref a1, .ref a2, .ref a3, .ref a4, .ref a5, .ref a6, .int (nI tr)])), (a3, .inl (cy 1, 9, .inl gf3)), (a4, .inl (cy 1, 9, .inl f1)), (a5, .inl (cy 1, 9, .inl gf5)), (a6, .inl (cy 1, 9, .inl gf6))]) [0, 1, 2, 3, 4] rfl
  have hD9 := hD.sub (ws' := [(h0, .inr (3, [.int kd, .int tp, .int bk, .int lk, .int bs, .int ow, hv, .int mt, .ref a1, .ref a2, .ref a3, .ref a4, .ref a5, .ref a6, .int (nI tr)])), (a3, .inl (cy 1, 9, .inl gf3)), (a4, .inl (cy 1, 9, .inl f1)), (a5, .inl (cy 1, 9, .inl gf5)), (a6, .inl (cy 1, 9, .inl gf6))]) [0, 1, 2, 3, 4] (by decide) rfl
  refine W.widen (k := 0) (n := 0) (Nat.le_of_ble_eq_true rfl) (Nat.le_of_ble_eq_true rfl) ?_
  exact W.vret hx hb hr (fun t ht hW => ⟨⟨(gf3, f1, gf5, gf6), rfl, trivial, by rw [ht]; exact hP9, hD9⟩, hS.F ht⟩) hS.2.2 dX2_toCatch_10

set_option maxHeartbeats 4000000 in
set_option maxRecDepth 100000 in
theorem g_toFinally (l : Launch) (D : va_G) (cy : Nat → ClassId) (sz : Nat) (h0 : Nat) (a1 : Nat) (a2 : Nat) (a3 : Nat) (a4 : Nat) (a5 : Nat) (a6 : Nat) (kd : Int32) (tp : Int32) (bk : Int32) (lk : Int32) (bs : Int32) (ow : Int32) (mt : Int32) (hv : Value) (tr : Nat) (gf3 : Nat → Int32) (gf4 : Nat → Int32) (gf5 : Nat → Int32) (gf6 : Nat → Int32) (p0 : Int32) (p1 : Int32) (htr : tr ≤ 8) : Met l yX2_toFinally (.code yX2_toFinally cX2_toFinally 3 none :: TB) ({ frames := 0, cells := 0, slots := 0, locals := 0 }) (va_Pc [.ref h0, .int p0, .int p1] (fun U => U.heap.size = sz ∧ va_P D vwCl [(h0, .inr (3, [.int kd, .int tp, .int bk, .int lk, .int bs, .int ow, hv, .int mt, .ref a1, .ref a2, .ref a3, .ref a4, .ref a5, .ref a6, .int (nI tr)])), (a3, .inl (cy 1, 9, .inl gf3)), (a4, .inl (cy 1, 9, .inl gf4)), (a5, .inl (cy 1, 9, .inl gf5)), (a6, .inl (cy 1, 9, .inl gf6))] U.heap ∧ va_K D vwCl (TY cy) U ∧ va_D (fun _ => True) [(h0, .inr (3, [.int kd, .int tp, .int bk, .int lk, .int bs, .int ow, hv, .int mt, .ref a1, .ref a2, .ref a3, .ref a4, .ref a5, .ref a6, .int (nI tr)])), (a3, .inl (cy 1, 9, .inl gf3)), (a4, .inl (cy 1, 9, .inl gf4)), (a5, .inl (cy 1, 9, .inl gf5)), (a6, .inl (cy 1, 9, .inl gf6))])) (va_Qv (fun (u : (Nat → Int32) × (Nat → Int32) × (Nat → Int32) × (Nat → Int32)) => True) (fun (u : (Nat → Int32) × (Nat → Int32) × (Nat → Int32) × (Nat → Int32)) t => va_P D vwCl [(h0, .inr (3, [.int kd, .int tp, .int bk, .int lk, .int bs, .int ow, hv, .int mt, .ref a1, .ref a2, .ref a3, .ref a4, .ref a5, .ref a6, .int (nI tr)])), (a3, .inl (cy 1, 9, .inl u.1)), (a4, .inl (cy 1, 9, .inl u.2.1)), (a5, .inl (cy 1, 9, .inl u.2.2.1)), (a6, .inl (cy 1, 9, .inl u.2.2.2))] t.heap ∧ va_D (va_A [(h0, .inr (3, [.int kd, .int tp, .int bk, .int lk, .int bs, .int ow, hv, .int mt, .ref a1, .ref a2, .ref a3, .ref a4, .ref a5, .ref a6, .int (nI tr)])), (a3, .inl (cy 1, 9, .inl gf3)), (a4, .inl (cy 1, 9, .inl gf4)), (a5, .inl (cy 1, 9, .inl gf5)), (a6, .inl (cy 1, 9, .inl gf6))] sz) [(h0, .inr (3, [.int kd, .int tp, .int bk, .int lk, .int bs, .int ow, hv, .int mt, .ref a1, .ref a2, .ref a3, .ref a4, .ref a5, .ref a6, .int (nI tr)])), (a3, .inl (cy 1, 9, .inl u.1)), (a4, .inl (cy 1, 9, .inl u.2.1)), (a5, .inl (cy 1, 9, .inl u.2.2.1)), (a6, .inl (cy 1, 9, .inl u.2.2.2))]) (va_A [(h0, .inr (3, [.int kd, .int tp, .int bk, .int lk, .int bs, .int ow, hv, .int mt, .ref a1, .ref a2, .ref a3, .ref a4, .ref a5, .ref a6, .int (nI tr)])), (a3, .inl (cy 1, 9, .inl gf3)), (a4, .inl (cy 1, 9, .inl gf4)), (a5, .inl (cy 1, 9, .inl gf5)), (a6, .inl (cy 1, 9, .inl gf6))] sz)) 0 0 (va_A [(h0, .inr (3, [.int kd, .int tp, .int bk, .int lk, .int bs, .int ow, hv, .int mt, .ref a1, .ref a2, .ref a3, .ref a4, .ref a5, .ref a6, .int (nI tr)])), (a3, .inl (cy 1, 9, .inl gf3)), (a4, .inl (cy 1, 9, .inl gf4)), (a5, .inl (cy 1, 9, .inl gf5)), (a6, .inl (cy 1, 9, .inl gf6))] sz) := by
  refine Met.ofW (cc := cX2_toFinally) (maxL := 3) (ret := none) (by decide) rfl ?_
  intro p e s m args below meth c s₁ B hml hv
  obtain ⟨rfl, hsz, hP, hK, hD0⟩ := hv
  have hx := B.exec
  have hb := B.bytes
  have hr := B.returns
  have hts := atoms_spec (ws := .code yX2_toFinally cX2_toFinally 3 none :: TB) B.pre
  have hT : ∀ w ∈ TB, w.before _ s = true := fun w h => hts w (List.mem_cons_of_mem _ h)
  have hown : s.vm.findClass "MakerStarts$Frame" = some m.cls := findClass_of_methodNamed B.named
  have hlocks := B.notSynchronized
  subst hsz
  have hD := hD0.self (sz := s.heap.size)
  generalize hAe : va_A [(h0, .inr (3, [.int kd, .int tp, .int bk, .int lk, .int bs, .int ow, hv, .int mt, .ref a1, .ref a2, .ref a3, .ref a4, .ref a5, .ref a6, .int (nI tr)])), (a3, .inl (cy 1, 9, .inl gf3)), (a4, .inl (cy 1, 9, .inl gf4)), (a5, .inl (cy 1, 9, .inl gf5)), (a6, .inl (cy 1, 9, .inl gf6))] s.heap.size = A at hD  ⊢
  have hA : ∀ q : Nat, s.heap.size ≤ q → A q := fun q h => by rw [← hAe]; exact Or.inr h
  have hS : va_S A s.heap s.heap [] := va_S.rf
  have hP : va_P D vwCl [(h0, .inr (3, [.int kd, .int tp, .int bk, .int lk, .int bs, .int ow, hv, .int mt, .ref a1, .ref a2, .ref a3, .ref a4, .ref a5, .ref a6, .int (nI tr)])), (a3, .inl (cy 1, 9, .inl gf3)), (a4, .inl (cy 1, 9, .inl gf4)), (a5, .inl (cy 1, 9, .inl gf5)), (a6, .inl (cy 1, 9, .inl gf6))] s.heap := hP
  have hl := lv_entry ([.ref h0, .int p0, .int p1]) (n := 3) (Nat.le_of_ble_eq_true rfl)
  rw [lg_entry_eq]
  generalize (lg_sl ([.ref h0, .int p0, .int p1]) ++ List.replicate (3 - (lg_sl ([.ref h0, .int p0, .int p1])).length) Slot.unset).toArray = ls at hl ⊢
  have hl : lv_has ls 3 [(0, .ref h0), (1, .int p0), (2, .int p1)] := hl
  refine lv_aload_n hx hb dX2_toFinally_0 rfl (lv_at hl 0 rfl) ?_
  refine va_get (D := D) (ci := 3) (v := .ref a4) (C := RX2) (T := TX2) (N := 15) hx hb hT i_TX2 hown hK hP 0 rfl rfl 11 (by decide) (hT _ t_433) (fun _ h9 => h9) rfl dX2_toFinally_1 ?_
  refine lv_aload_n hx hb dX2_toFinally_4 rfl (lv_at hl 0 rfl) ?_
  refine va_get (D := D) (ci := 3) (v := .int (nI tr)) (C := RX2) (T := TX2) (N := 15) hx hb hT i_TX2 hown hK hP 0 rfl rfl 14 (by decide) (hT _ t_436) (fun _ h9 => h9) rfl dX2_toFinally_5 ?_
  refine lv_iconst (v := 2) hx hb dX2_toFinally_8 (by decide) ?_
  refine va_iast hx hb hK hP hD hS 2 1 rfl rfl (vp_in_nI (by omega) (by decide)) dX2_toFinally_9 (fun H locs hP hD hS => ?_)
  have hP : va_P D vwCl [(h0, .inr (3, [.int kd, .int tp, .int bk, .int lk, .int bs, .int ow, hv, .int mt, .ref a1, .ref a2, .ref a3, .ref a4, .ref a5, .ref a6, .int (nI tr)])), (a3, .inl (cy 1, 9, .inl gf3)), (a4, .inl (cy 1, 9, .inl (upd gf4 ((nI tr) : Int32).toNatClampNeg 2))), (a5, .inl (cy 1, 9, .inl gf5)), (a6, .inl (cy 1, 9, .inl gf6))] H := hP
  have hD : va_D A [(h0, .inr (3, [.int kd, .int tp, .int bk, .int lk, .int bs, .int ow, hv, .int mt, .ref a1, .ref a2, .ref a3, .ref a4, .ref a5, .ref a6, .int (nI tr)])), (a3, .inl (cy 1, 9, .inl gf3)), (a4, .inl (cy 1, 9, .inl (upd gf4 ((nI tr) : Int32).toNatClampNeg 2))), (a5, .inl (cy 1, 9, .inl gf5)), (a6, .inl (cy 1, 9, .inl gf6))] := hD
  generalize hff1 : (upd gf4 ((nI tr) : Int32).toNatClampNeg 2) = f1 at hP hD
  refine lv_aload_n hx hb dX2_toFinally_10 rfl (lv_at hl 0 rfl) ?_
  refine va_get (D := D) (ci := 3) (v := .ref a5) (C := RX2) (T := TX2) (N := 15) hx hb hT i_TX2 hown hK hP 0 rfl rfl 12 (by decide) (hT _ t_434) (fun _ h9 => h9) rfl dX2_toFinally_11 ?_
  refine lv_aload_n hx hb dX2_toFinally_14 rfl (lv_at hl 0 rfl) ?_
  refine va_get (D := D) (ci := 3) (v := .int (nI tr)) (C := RX2) (T := TX2) (N := 15) hx hb hT i_TX2 hown hK hP 0 rfl rfl 14 (by decide) (hT _ t_436) (fun _ h9 => h9) rfl dX2_toFinally_15 ?_
  refine lv_iload_n hx hb dX2_toFinally_18 rfl (lv_at hl 1 rfl) ?_
  refine va_iast hx hb hK hP hD hS 3 1 rfl rfl (vp_in_nI (by omega) (by decide)) dX2_toFinally_19 (fun H locs hP hD hS => ?_)
  have hP : va_P D vwCl [(h0, .inr (3, [.int kd, .int tp, .int bk, .int lk, .int bs, .int ow, hv, .int mt, .ref a1, .ref a2, .ref a3, .ref a4, .ref a5, .ref a6, .int (nI tr)])), (a3, .inl (cy 1, 9, .inl gf3)), (a4, .inl (cy 1, 9, .inl f1)), (a5, .inl (cy 1, 9, .inl (upd gf5 ((nI tr) : Int32).toNatClampNeg p0))), (a6, .inl (cy 1, 9, .inl gf6))] H := hP
  have hD : va_D A [(h0, .inr (3, [.int kd, .int tp, .int bk, .int lk, .int bs, .int ow, hv, .int mt, .ref a1, .ref a2, .ref a3, .ref a4, .ref a5, .ref a6, .int (nI tr)])), (a3, .inl (cy 1, 9, .inl gf3)), (a4, .inl (cy 1, 9, .inl f1)), (a5, .inl (cy 1, 9, .inl (upd gf5 ((nI tr) : Int32).toNatClampNeg p0))), (a6, .inl (cy 1, 9, .inl gf6))] := hD
  generalize hff2 : (upd gf5 ((nI tr) : Int32).toNatClampNeg p0) = f2 at hP hD
  refine lv_aload_n hx hb dX2_toFinally_20 rfl (lv_at hl 0 rfl) ?_
  refine va_get (D := D) (ci := 3) (v := .ref a6) (C := RX2) (T := TX2) (N := 15) hx hb hT i_TX2 hown hK hP 0 rfl rfl 13 (by decide) (hT _ t_435) (fun _ h9 => h9) rfl dX2_toFinally_21 ?_
  refine lv_aload_n hx hb dX2_toFinally_24 rfl (lv_at hl 0 rfl) ?_
  refine va_get (D := D) (ci := 3) (v := .int (nI tr)) (C := RX2) (T := TX2) (N := 15) hx hb hT i_TX2 hown hK hP 0 rfl rfl 14 (by decide) (hT _ t_436) (fun _ h9 => h9) rfl dX2_toFinally_25 ?_
  refine lv_iload_n hx hb dX2_toFinally_28 rfl (lv_at hl 2 rfl) ?_
  refine va_iast hx hb hK hP hD hS 4 1 rfl rfl (vp_in_nI (by omega) (by decide)) dX2_toFinally_29 (fun H locs hP hD hS => ?_)
  have hP : va_P D vwCl [(h0, .inr (3, [.int kd, .int tp, .int bk, .int lk, .int bs, .int ow, hv, .int mt, .ref a1, .ref a2, .ref a3, .ref a4, .ref a5, .ref a6, .int (nI tr)])), (a3, .inl (cy 1, 9, .inl gf3)), (a4, .inl (cy 1, 9, .inl f1)), (a5, .inl (cy 1, 9, .inl f2)), (a6, .inl (cy 1, 9, .inl (upd gf6 ((nI tr) : Int32).toNatClampNeg p1)))] H := hP
  have hD : va_D A [(h0, .inr (3, [.int kd, .int tp, .int bk, .int lk, .int bs, .int ow, hv, .int mt, .ref a1, .ref a2, .ref a3, .ref a4, .ref a5, .ref a6, .int (nI tr)])), (a3, .inl (cy 1, 9, .inl gf3)), (a4, .inl (cy 1, 9, .inl f1)), (a5, .inl (cy 1, 9, .inl f2)), (a6, .inl (cy 1, 9, .inl (upd gf6 ((nI tr) : Int32).toNatClampNeg p1)))] := hD
  generalize hff3 : (upd gf6 ((nI tr) : Int32).toNatClampNeg p1) = f3 at hP hD
  have hP9 := hP.sub (ws' := [(h0, .inr (3, [.int kd, .int tp, .int bk, .int lk, .int bs, .int ow, hv, .int mt, .ref a1, .ref a2, .ref a3, .ref a4, .ref a5, .ref a6, .int (nI tr)])), (a3, .inl (cy 1, 9, .inl gf3)), (a4, .inl (cy 1, 9, .inl f1)), (a5, .inl (cy 1, 9, .inl f2)), (a6, .inl (cy 1, 9, .inl f3))]) [0, 1, 2, 3, 4] rfl
  have hD9 := hD.sub (ws' := [(h0, .inr (3, [.int kd, .int tp, .int bk, .int lk, .int bs, .int ow, hv, .int mt, .ref a1, .ref a2, .ref a3, .ref a4, .ref a5, .ref a6, .int (nI tr)])), (a3, .inl (cy 1, 9, .inl gf3)), (a4, .inl (cy 1, 9, .inl f1)), (a5, .inl (cy 1, 9, .inl f2)), (a6, .inl (cy 1, 9, .inl f3))]) [0, 1, 2, 3, 4] (by decide) rfl
  refine W.widen (k := 0) (n := 0) (Nat.le_of_ble_eq_true rfl) (Nat.le_of_ble_eq_true rfl) ?_
  exact W.vret hx hb hr (fun t ht hW => ⟨⟨(gf3, f1, f2, f3), rfl, trivial, by rw [ht]; exact hP9, hD9⟩, hS.F ht⟩) hS.2.2 dX2_toFinally_30

set_option maxHeartbeats 4000000 in
set_option maxRecDepth 100000 in
theorem g_closeTry (l : Launch) (D : va_G) (cy : Nat → ClassId) (sz : Nat) (h0 : Nat) (a1 : Nat) (a2 : Nat) (a3 : Nat) (a4 : Nat) (a5 : Nat) (a6 : Nat) (kd : Int32) (tp : Int32) (bk : Int32) (lk : Int32) (bs : Int32) (ow : Int32) (mt : Int32) (hv : Value) (tr : Nat) (gf3 : Nat → Int32) (gf4 : Nat → Int32) (gf5 : Nat → Int32) (gf6 : Nat → Int32) (htr : tr ≤ 8) : Met l yX2_closeTry (.code yX2_closeTry cX2_closeTry 1 none :: TB) ({ frames := 0, cells := 0, slots := 0, locals := 0 }) (va_Pc [.ref h0] (fun U => U.heap.size = sz ∧ va_P D vwCl [(h0, .inr (3, [.int kd, .int tp, .int bk, .int lk, .int bs, .int ow, hv, .int mt, .ref a1, .ref a2, .ref a3, .ref a4, .ref a5, .ref a6, .int (nI tr)])), (a3, .inl (cy 1, 9, .inl gf3)), (a4, .inl (cy 1, 9, .inl gf4)), (a5, .inl (cy 1, 9, .inl gf5)), (a6, .inl (cy 1, 9, .inl gf6))] U.heap ∧ va_K D vwCl (TY cy) U ∧ va_D (fun _ => True) [(h0, .inr (3, [.int kd, .int tp, .int bk, .int lk, .int bs, .int ow, hv, .int mt, .ref a1, .ref a2, .ref a3, .ref a4, .ref a5, .ref a6, .int (nI tr)])), (a3, .inl (cy 1, 9, .inl gf3)), (a4, .inl (cy 1, 9, .inl gf4)), (a5, .inl (cy 1, 9, .inl gf5)), (a6, .inl (cy 1, 9, .inl gf6))])) (va_Qv (fun (u : Nat × (Nat → Int32) × (Nat → Int32) × (Nat → Int32) × (Nat → Int32)) => u.1 ≤ 8) (fun (u : Nat × (Nat → Int32) × (Nat → Int32) × (Nat → Int32) × (Nat → Int32)) t => va_P D vwCl [(h0, .inr (3, [.int kd, .int tp, .int bk, .int lk, .int bs, .int ow, hv, .int mt, .ref a1, .ref a2, .ref a3, .ref a4, .ref a5, .ref a6, .int (nI u.1)])), (a3, .inl (cy 1, 9, .inl u.2.1)), (a4, .inl (cy 1, 9, .inl u.2.2.1)), (a5, .inl (cy 1, 9, .inl u.2.2.2.1)), (a6, .inl (cy 1, 9, .inl u.2.2.2.2))] t.heap ∧ va_D (va_A [(h0, .inr (3, [.int kd, .int tp, .int bk, .int lk, .int bs, .int ow, hv, .int mt, .ref a1, .ref a2, .ref a3, .ref a4, .ref a5, .ref a6, .int (nI tr)])), (a3, .inl (cy 1, 9, .inl gf3)), (a4, .inl (cy 1, 9, .inl gf4)), (a5, .inl (cy 1, 9, .inl gf5)), (a6, .inl (cy 1, 9, .inl gf6))] sz) [(h0, .inr (3, [.int kd, .int tp, .int bk, .int lk, .int bs, .int ow, hv, .int mt, .ref a1, .ref a2, .ref a3, .ref a4, .ref a5, .ref a6, .int (nI u.1)])), (a3, .inl (cy 1, 9, .inl u.2.1)), (a4, .inl (cy 1, 9, .inl u.2.2.1)), (a5, .inl (cy 1, 9, .inl u.2.2.2.1)), (a6, .inl (cy 1, 9, .inl u.2.2.2.2))]) (va_A [(h0, .inr (3, [.int kd, .int tp, .int bk, .int lk, .int bs, .int ow, hv, .int mt, .ref a1, .ref a2, .ref a3, .ref a4, .ref a5, .ref a6, .int (nI tr)])), (a3, .inl (cy 1, 9, .inl gf3)), (a4, .inl (cy 1, 9, .inl gf4)), (a5, .inl (cy 1, 9, .inl gf5)), (a6, .inl (cy 1, 9, .inl gf6))] sz)) 0 0 (va_A [(h0, .inr (3, [.int kd, .int tp, .int bk, .int lk, .int bs, .int ow, hv, .int mt, .ref a1, .ref a2, .ref a3, .ref a4, .ref a5, .ref a6, .int (nI tr)])), (a3, .inl (cy 1, 9, .inl gf3)), (a4, .inl (cy 1, 9, .inl gf4)), (a5, .inl (cy 1, 9, .inl gf5)), (a6, .inl (cy 1, 9, .inl gf6))] sz) := by
  refine Met.ofW (cc := cX2_closeTry) (maxL := 1) (ret := none) (by decide) rfl ?_
  intro p e s m args below meth c s₁ B hml hv
  obtain ⟨rfl, hsz, hP, hK, hD0⟩ := hv
  have hx := B.exec
  have hb := B.bytes
  have hr := B.returns
  have hts := atoms_spec (ws := .code yX2_closeTry cX2_closeTry 1 none :: TB) B.pre
  have hT : ∀ w ∈ TB, w.before _ s = true := fun w h => hts w (List.mem_cons_of_mem _ h)
  have hown : s.vm.findClass "MakerStarts$Frame" = some m.cls := findClass_of_methodNamed B.named
  have hlocks := B.notSynchronized
  subst hsz
  have hD := hD0.self (sz := s.heap.size)
  generalize hAe : va_A [(h0, .inr (3, [.int kd, .int tp, .int bk, .int lk, .int bs, .int ow, hv, .int mt, .ref a1, .ref a2, .ref a3, .ref a4, .ref a5, .ref a6, .int (nI tr)])), (a3, .inl (cy 1, 9, .inl gf3)), (a4, .inl (cy 1, 9, .inl gf4)), (a5, .inl (cy 1, 9, .inl gf5)), (a6, .inl (cy 1, 9, .inl gf6))] s.heap.size = A at hD  ⊢
  have hA : ∀ q : Nat, s.heap.size ≤ q → A q := fun q h => by rw [← hAe]; exact Or.inr h
  have hS : va_S A s.heap s.heap [] := va_S.rf
  have hP : va_P D vwCl [(h0, .inr (3, [.int kd, .int tp, .int bk, .int lk, .int bs, .int ow, hv, .int mt, .ref a1, .ref a2, .ref a3, .ref a4, .ref a5, .ref a6, .int (nI tr)])), (a3, .inl (cy 1, 9, .inl gf3)), (a4, .inl (cy 1, 9, .inl gf4)), (a5, .inl (cy 1, 9, .inl gf5)), (a6, .inl (cy 1, 9, .inl gf6))] s.heap := hP
  have hl := lv_entry ([.ref h0]) (n := 1) (Nat.le_of_ble_eq_true rfl)
  rw [lg_entry_eq]
  generalize (lg_sl ([.ref h0]) ++ List.replicate (1 - (lg_sl ([.ref h0])).length) Slot.unset).toArray = ls at hl ⊢
  have hl : lv_has ls 1 [(0, .ref h0)] := hl
  refine lv_aload_n hx hb dX2_closeTry_0 rfl (lv_at hl 0 rfl) ?_
  refine va_get (D := D) (ci := 3) (v := .int (nI tr)) (C := RX2) (T := TX2) (N := 15) hx hb hT i_TX2 hown hK hP 0 rfl rfl 14 (by decide) (hT _ t_436) (fun _ h9 => h9) rfl dX2_closeTry_1 ?_
  refine lv_if_le (tgt := 17) hx hb dX2_closeTry_4 (by decide) (fun c1 => ?_) (fun c1 => ?_)
  · have hP9 := hP.sub (ws' := [(h0, .inr (3, [.int kd, .int tp, .int bk, .int lk, .int bs, .int ow, hv, .int mt, .ref a1, .ref a2, .ref a3, .ref a4, .ref a5, .ref a6, .int (nI tr)])), (a3, .inl (cy 1, 9, .inl gf3)), (a4, .inl (cy 1, 9, .inl gf4)), (a5, .inl (cy 1, 9, .inl gf5)), (a6, .inl (cy 1, 9, .inl gf6))]) [0, 1, 2, 3, 4] rfl
    have hD9 := hD.sub (ws' := [(h0, .inr (3, [.int kd, .int tp, .int bk, .int lk, .int bs, .int ow, hv, .int mt, .ref a1, .ref a2, .ref a3, .ref a4, .ref a5, .ref a6, .int (nI tr)])), (a3, .inl (cy 1, 9, .inl gf3)), (a4, .inl (cy 1, 9, .inl gf4)), (a5, .inl (cy 1, 9, .inl gf5)), (a6, .inl (cy 1, 9, .inl gf6))]) [0, 1, 2, 3, 4] (by decide) rfl
    refine W.widen (k := 0) (n := 0) (Nat.le_of_ble_eq_true rfl) (Nat.le_of_ble_eq_true rfl) ?_
    exact W.vret hx hb hr (fun t ht hW => ⟨⟨(tr, gf3, gf4, gf5, gf6), rfl, htr, by rw [ht]; exact hP9, hD9⟩, hS.F ht⟩) hS.2.2 dX2_closeTry_17
  · obtain ⟨k9, rfl⟩ : ∃ k, tr = k + 1 := by
      cases tr with
      | zero => exact absurd (show nI 0 ≤ 0 by decide) c1
      | succ k => exact ⟨k, rfl⟩
    refine lv_aload_n hx hb dX2_closeTry_7 rfl (lv_at hl 0 rfl) ?_
    refine lv_dup hx hb dX2_closeTry_8 rfl ?_
    refine va_get (D := D) (ci := 3) (v := .int (nI (k9 + 1))) (C := RX2) (T := TX2) (N := 15) hx hb hT i_TX2 hown hK hP 0 rfl rfl 14 (by decide) (hT _ t_436) (fun _ h9 => h9) rfl dX2_closeTry_9 ?_
    refine lv_iconst (v := 1) hx hb dX2_closeTry_12 (by decide) ?_
    refine lv_isub hx hb dX2_closeTry_13 ?_
    refine lv_topi (fun z2 e3 => ?_)
    obtain rfl : z2 = nI k9 := e3.trans (nI_pred k9)
    refine va_put (D := D) (ci := 3) (v := .int (nI k9)) (ty := .int) (C := RX2) (T := TX2) (N := 15) hx hb hT i_TX2 tyX2 tyX2_ok nmX2 hown hK hP hD hS 0 rfl rfl 14 (by decide) (hT _ t_436) (fun _ h9 => h9) rfl (by decide +kernel) rfl rfl (Nat.le_of_ble_eq_true rfl) dX2_closeTry_14 (fun H locs hP hD hS => ?_)
    have hP : va_P D vwCl [(h0, .inr (3, [.int kd, .int tp, .int bk, .int lk, .int bs, .int ow, hv, .int mt, .ref a1, .ref a2, .ref a3, .ref a4, .ref a5, .ref a6, .int (nI k9)])), (a3, .inl (cy 1, 9, .inl gf3)), (a4, .inl (cy 1, 9, .inl gf4)), (a5, .inl (cy 1, 9, .inl gf5)), (a6, .inl (cy 1, 9, .inl gf6))] H := hP
    have hD : va_D A [(h0, .inr (3, [.int kd, .int tp, .int bk, .int lk, .int bs, .int ow, hv, .int mt, .ref a1, .ref a2, .ref a3, .ref a4, .ref a5, .ref a6, .int (nI k9)])), (a3, .inl (cy 1, 9, .inl gf3)), (a4, .inl (cy 1, 9, .inl gf4)), (a5, .inl (cy 1, 9, .inl gf5)), (a6, .inl (cy 1, 9, .inl gf6))] := hD
    have hP9 := hP.sub (ws' := [(h0, .inr (3, [.int kd, .int tp, .int bk, .int lk, .int bs, .int ow, hv, .int mt, .ref a1, .ref a2, .ref a3, .ref a4, .ref a5, .ref a6, .int (nI k9)])), (a3, .inl (cy 1, 9, .inl gf3)), (a4, .inl (cy 1, 9, .inl gf4)), (a5, .inl (cy 1, 9, .inl gf5)), (a6, .inl (cy 1, 9, .inl gf6))]) [0, 1, 2, 3, 4] rfl
    have hD9 := hD.sub (ws' := [(h0, .inr (3, [.int kd, .int tp, .int bk, .int lk, .int bs, .int ow, hv, .int mt, .ref a1, .ref a2, .ref a3, .ref a4, .ref a5, .ref a6, .int (nI k9)])), (a3, .inl (cy 1, 9, .inl gf3)), (a4, .inl (cy 1, 9, .inl gf4)), (a5, .inl (cy 1, 9, .inl gf5)), (a6, .inl (cy 1, 9, .inl gf6))]) [0, 1, 2, 3, 4] (by decide) rfl
    refine W.widen (k := 0) (n := 0) (Nat.le_of_ble_eq_true rfl) (Nat.le_of_ble_eq_true rfl) ?_
    exact W.vret hx hb hr (fun t ht hW => ⟨⟨(k9, gf3, gf4, gf5, gf6), rfl, (show k9 ≤ 8 by omega), by rw [ht]; exact hP9, hD9⟩, hS.F ht⟩) hS.2.2 dX2_closeTry_17

set_option maxHeartbeats 4000000 in
set_option maxRecDepth 100000 in
theorem g_openTry (l : Launch) (D : va_G) (cy : Nat → ClassId) (sz : Nat) (h0 : Nat) (a1 : Nat) (a2 : Nat) (a3 : Nat) (a4 : Nat) (a5 : Nat) (a6 : Nat) (kd : Int32) (tp : Int32) (bk : Int32) (lk : Int32) (bs : Int32) (ow : Int32) (mt : Int32) (hv : Value) (tr : Nat) (gf3 : Nat → Int32) (gf4 : Nat → Int32) (gf5 : Nat → Int32) (gf6 : Nat → Int32) (p0 : Int32) (htr : tr ≤ 8) : Met l yX2_openTry (.code yX2_openTry cX2_openTry 2 none :: TB) ({ frames := 0, cells := 0, slots := 0, locals := 0 }) (va_Pc [.ref h0, .int p0] (fun U => U.heap.size = sz ∧ va_P D vwCl [(h0, .inr (3, [.int kd, .int tp, .int bk, .int lk, .int bs, .int ow, hv, .int mt, .ref a1, .ref a2, .ref a3, .ref a4, .ref a5, .ref a6, .int (nI tr)])), (a3, .inl (cy 1, 9, .inl gf3)), (a4, .inl (cy 1, 9, .inl gf4)), (a5, .inl (cy 1, 9, .inl gf5)), (a6, .inl (cy 1, 9, .inl gf6))] U.heap ∧ va_K D vwCl (TY cy) U ∧ va_D (fun _ => True) [(h0, .inr (3, [.int kd, .int tp, .int bk, .int lk, .int bs, .int ow, hv, .int mt, .ref a1, .ref a2, .ref a3, .ref a4, .ref a5, .ref a6, .int (nI tr)])), (a3, .inl (cy 1, 9, .inl gf3)), (a4, .inl (cy 1, 9, .inl gf4)), (a5, .inl (cy 1, 9, .inl gf5)), (a6, .inl (cy 1, 9, .inl gf6))])) (va_Qv (fun (u : Nat × (Nat → Int32) × (Nat → Int32) × (Nat → Int32) × (Nat → Int32)) => u.1 ≤ 8) (fun (u : Nat × (Nat → Int32) × (Nat → Int32) × (Nat → Int32) × (Nat → Int32)) t => va_P D vwCl [(h0, .inr (3, [.int kd, .int tp, .int bk, .int lk, .int bs, .int ow, hv, .int mt, .ref a1, .ref a2, .ref a3, .ref a4, .ref a5, .ref a6, .int (nI u.1)])), (a3, .inl (cy 1, 9, .inl u.2.1)), (a4, .inl (cy 1, 9, .inl u.2.2.1)), (a5, .inl (cy 1, 9, .inl u.2.2.2.1)), (a6, .inl (cy 1, 9, .inl u.2.2.2.2))] t.heap ∧ va_D (va_A [(h0, .inr (3, [.int kd, .int tp, .int bk, .int lk, .int bs, .int ow, hv, .int mt, .ref a1, .ref a2, .ref a3, .ref a4, .ref a5, .ref a6, .int (nI tr)])), (a3, .inl (cy 1, 9, .inl gf3)), (a4, .inl (cy 1, 9, .inl gf4)), (a5, .inl (cy 1, 9, .inl gf5)), (a6, .inl (cy 1, 9, .inl gf6))] sz) [(h0, .inr (3, [.int kd, .int tp, .int bk, .int lk, .int bs, .int ow, hv, .int mt, .ref a1, .ref a2, .ref a3, .ref a4, .ref a5, .ref a6, .int (nI u.1)])), (a3, .inl (cy 1, 9, .inl u.2.1)), (a4, .inl (cy 1, 9, .inl u.2.2.1)), (a5, .inl (cy 1, 9, .inl u.2.2.2.1)), (a6, .inl (cy 1, 9, .inl u.2.2.2.2))]) (va_A [(h0, .inr (3, [.int kd, .int tp, .int bk, .int lk, .int bs, .int ow, hv, .int mt, .ref a1, .ref a2, .ref a3, .ref a4, .ref a5, .ref a6, .int (nI tr)])), (a3, .inl (cy 1, 9, .inl gf3)), (a4, .inl (cy 1, 9, .inl gf4)), (a5, .inl (cy 1, 9, .inl gf5)), (a6, .inl (cy 1, 9, .inl gf6))] sz)) 0 0 (va_A [(h0, .inr (3, [.int kd, .int tp, .int bk, .int lk, .int bs, .int ow, hv, .int mt, .ref a1, .ref a2, .ref a3, .ref a4, .ref a5, .ref a6, .int (nI tr)])), (a3, .inl (cy 1, 9, .inl gf3)), (a4, .inl (cy 1, 9, .inl gf4)), (a5, .inl (cy 1, 9, .inl gf5)), (a6, .inl (cy 1, 9, .inl gf6))] sz) := by
  refine Met.ofW (cc := cX2_openTry) (maxL := 2) (ret := none) (by decide) rfl ?_
  intro p e s m args below meth c s₁ B hml hv
  obtain ⟨rfl, hsz, hP, hK, hD0⟩ := hv
  have hx := B.exec
  have hb := B.bytes
  have hr := B.returns
  have hts := atoms_spec (ws := .code yX2_openTry cX2_openTry 2 none :: TB) B.pre
  have hT : ∀ w ∈ TB, w.before _ s = true := fun w h => hts w (List.mem_cons_of_mem _ h)
  have hown : s.vm.findClass "MakerStarts$Frame" = some m.cls := findClass_of_methodNamed B.named
  have hlocks := B.notSynchronized
  subst hsz
  have hD := hD0.self (sz := s.heap.size)
  generalize hAe : va_A [(h0, .inr (3, [.int kd, .int tp, .int bk, .int lk, .int bs, .int ow, hv, .int mt, .ref a1, .ref a2, .ref a3, .ref a4, .ref a5, .ref a6, .int (nI tr)])), (a3, .inl (cy 1, 9, .inl gf3)), (a4, .inl (cy 1, 9, .inl gf4)), (a5, .inl (cy 1, 9, .inl gf5)), (a6, .inl (cy 1, 9, .inl gf6))] s.heap.size = A at hD  ⊢
  have hA : ∀ q : Nat, s.heap.size ≤ q → A q := fun q h => by rw [← hAe]; exact Or.inr h
  have hS : va_S A s.heap s.heap [] := va_S.rf
  have hP : va_P D vwCl [(h0, .inr (3, [.int kd, .int tp, .int bk, .int lk, .int bs, .int ow, hv, .int mt, .ref a1, .ref a2, .ref a3, .ref a4, .ref a5, .ref a6, .int (nI tr)])), (a3, .inl (cy 1, 9, .inl gf3)), (a4, .inl (cy 1, 9, .inl gf4)), (a5, .inl (cy 1, 9, .inl gf5)), (a6, .inl (cy 1, 9, .inl gf6))] s.heap := hP
  have hl := lv_entry ([.ref h0, .int p0]) (n := 2) (Nat.le_of_ble_eq_true rfl)
  rw [lg_entry_eq]
  generalize (lg_sl ([.ref h0, .int p0]) ++ List.replicate (2 - (lg_sl ([.ref h0, .int p0])).length) Slot.unset).toArray = ls at hl ⊢
  have hl : lv_has ls 2 [(0, .ref h0), (1, .int p0)] := hl
  refine lv_aload_n hx hb dX2_openTry_0 rfl (lv_at hl 0 rfl) ?_
  refine va_get (D := D) (ci := 3) (v := .int (nI tr)) (C := RX2) (T := TX2) (N := 15) hx hb hT i_TX2 hown hK hP 0 rfl rfl 14 (by decide) (hT _ t_436) (fun _ h9 => h9) rfl dX2_openTry_1 ?_
  refine lv_bipush (v := 8) hx hb dX2_openTry_4 (by decide) ?_
  refine lv_icmp_ge (tgt := 49) hx hb dX2_openTry_6 (by decide) (fun c1 => ?_) (fun c1 => ?_)
  · have hP9 := hP.sub (ws' := [(h0, .inr (3, [.int kd, .int tp, .int bk, .int lk, .int bs, .int ow, hv, .int mt, .ref a1, .ref a2, .ref a3, .ref a4, .ref a5, .ref a6, .int (nI tr)])), (a3, .inl (cy 1, 9, .inl gf3)), (a4, .inl (cy 1, 9, .inl gf4)), (a5, .inl (cy 1, 9, .inl gf5)), (a6, .inl (cy 1, 9, .inl gf6))]) [0, 1, 2, 3, 4] rfl
    have hD9 := hD.sub (ws' := [(h0, .inr (3, [.int kd, .int tp, .int bk, .int lk, .int bs, .int ow, hv, .int mt, .ref a1, .ref a2, .ref a3, .ref a4, .ref a5, .ref a6, .int (nI tr)])), (a3, .inl (cy 1, 9, .inl gf3)), (a4, .inl (cy 1, 9, .inl gf4)), (a5, .inl (cy 1, 9, .inl gf5)), (a6, .inl (cy 1, 9, .inl gf6))]) [0, 1, 2, 3, 4] (by decide) rfl
    refine W.widen (k := 0) (n := 0) (Nat.le_of_ble_eq_true rfl) (Nat.le_of_ble_eq_true rfl) ?_
    exact W.vret hx hb hr (fun t ht hW => ⟨⟨(tr, gf3, gf4, gf5, gf6), rfl, htr, by rw [ht]; exact hP9, hD9⟩, hS.F ht⟩) hS.2.2 dX2_openTry_49
  · have hlt : tr < 8 := by
      rcases Nat.lt_or_ge tr 8 with q | q
      · exact q
      · exact absurd (nI_le (a := 8) (b := tr) q (by omega)) c1
    refine lv_aload_n hx hb dX2_openTry_9 rfl (lv_at hl 0 rfl) ?_
    refine lv_dup hx hb dX2_openTry_10 rfl ?_
    refine va_get (D := D) (ci := 3) (v := .int (nI tr)) (C := RX2) (T := TX2) (N := 15) hx hb hT i_TX2 hown hK hP 0 rfl rfl 14 (by decide) (hT _ t_436) (fun _ h9 => h9) rfl dX2_openTry_11 ?_
    refine lv_iconst (v := 1) hx hb dX2_openTry_14 (by decide) ?_
    refine lv_iadd hx hb dX2_openTry_15 ?_
    refine lv_topi (fun z2 e3 => ?_)
    obtain rfl : z2 = nI (tr + 1) := e3.trans (nI_1 tr)
    refine va_put (D := D) (ci := 3) (v := .int (nI (tr + 1))) (ty := .int) (C := RX2) (T := TX2) (N := 15) hx hb hT i_TX2 tyX2 tyX2_ok nmX2 hown hK hP hD hS 0 rfl rfl 14 (by decide) (hT _ t_436) (fun _ h9 => h9) rfl (by decide +kernel) rfl rfl (Nat.le_of_ble_eq_true rfl) dX2_openTry_16 (fun H locs hP hD hS => ?_)
    have hP : va_P D vwCl [(h0, .inr (3, [.int kd, .int tp, .int bk, .int lk, .int bs, .int ow, hv, .int mt, .ref a1, .ref a2, .ref a3, .ref a4, .ref a5, .ref a6, .int (nI (tr + 1))])), (a3, .inl (cy 1, 9, .inl gf3)), (a4, .inl (cy 1, 9, .inl gf4)), (a5, .inl (cy 1, 9, .inl gf5)), (a6, .inl (cy 1, 9, .inl gf6))] H := hP
    have hD : va_D A [(h0, .inr (3, [.int kd, .int tp, .int bk, .int lk, .int bs, .int ow, hv, .int mt, .ref a1, .ref a2, .ref a3, .ref a4, .ref a5, .ref a6, .int (nI (tr + 1))])), (a3, .inl (cy 1, 9, .inl gf3)), (a4, .inl (cy 1, 9, .inl gf4)), (a5, .inl (cy 1, 9, .inl gf5)), (a6, .inl (cy 1, 9, .inl gf6))] := hD
    refine lv_aload_n hx hb dX2_openTry_19 rfl (lv_at hl 0 rfl) ?_
    refine va_get (D := D) (ci := 3) (v := .ref a3) (C := RX2) (T := TX2) (N := 15) hx hb hT i_TX2 hown hK hP 0 rfl rfl 10 (by decide) (hT _ t_432) (fun _ h9 => h9) rfl dX2_openTry_20 ?_
    refine lv_aload_n hx hb dX2_openTry_23 rfl (lv_at hl 0 rfl) ?_
    refine va_get (D := D) (ci := 3) (v := .int (nI (tr + 1))) (C := RX2) (T := TX2) (N := 15) hx hb hT i_TX2 hown hK hP 0 rfl rfl 14 (by decide) (hT _ t_436) (fun _ h9 => h9) rfl dX2_openTry_24 ?_
    refine lv_iload_n hx hb dX2_openTry_27 rfl (lv_at hl 1 rfl) ?_
    refine va_iast hx hb hK hP hD hS 1 1 rfl rfl (vp_in_nI (by omega) (by decide)) dX2_openTry_28 (fun H locs hP hD hS => ?_)
    have hP : va_P D vwCl [(h0, .inr (3, [.int kd, .int tp, .int bk, .int lk, .int bs, .int ow, hv, .int mt, .ref a1, .ref a2, .ref a3, .ref a4, .ref a5, .ref a6, .int (nI (tr + 1))])), (a3, .inl (cy 1, 9, .inl (upd gf3 ((nI (tr + 1)) : Int32).toNatClampNeg p0))), (a4, .inl (cy 1, 9, .inl gf4)), (a5, .inl (cy 1, 9, .inl gf5)), (a6, .inl (cy 1, 9, .inl gf6))] H := hP
    have hD : va_D A [(h0, .inr (3, [.int kd, .int tp, .int bk, .int lk, .int bs, .int ow, hv, .int mt, .ref a1, .ref a2, .ref a3, .ref a4, .ref a5, .ref a6, .int (nI (tr + 1))])), (a3, .inl (cy 1, 9, .inl (upd gf3 ((nI (tr + 1)) : Int32).toNatClampNeg p0))), (a4, .inl (cy 1, 9, .inl gf4)), (a5, .inl (cy 1, 9, .inl gf5)), (a6, .inl (cy 1, 9, .inl gf6))] := hD
    generalize hff4 : (upd gf3 ((nI (tr + 1)) : Int32).toNatClampNeg p0) = f4 at hP hD
    refine lv_aload_n hx hb dX2_openTry_29 rfl (lv_at hl 0 rfl) ?_
    refine va_get (D := D) (ci := 3) (v := .ref a4) (C := RX2) (T := TX2) (N := 15) hx hb hT i_TX2 hown hK hP 0 rfl rfl 11 (by decide) (hT _ t_433) (fun _ h9 => h9) rfl dX2_openTry_30 ?_
    refine lv_aload_n hx hb dX2_openTry_33 rfl (lv_at hl 0 rfl) ?_
    refine va_get (D := D) (ci := 3) (v := .int (nI (tr + 1))) (C := RX2) (T := TX2) (N := 15) hx hb hT i_TX2 hown hK hP 0 rfl rfl 14 (by decide) (hT _ t_436) (fun _ h9 => h9) rfl dX2_openTry_34 ?_
    refine lv_iconst (v := 0) hx hb dX2_openTry_37 (by decide) ?_
    refine va_iast hx hb hK hP hD hS 2 1 rfl rfl (vp_in_nI (by omega) (by decide)) dX2_openTry_38 (fun H locs hP hD hS => ?_)
    have hP : va_P D vwCl [(h0, .inr (3, [.int kd, .int tp, .int bk, .int lk, .int bs, .int ow, hv, .int mt, .ref a1, .ref a2, .ref a3, .ref a4, .ref a5, .ref a6, .int (nI (tr + 1))])), (a3, .inl (cy 1, 9, .inl f4)), (a4, .inl (cy 1, 9, .inl (upd gf4 ((nI (tr + 1)) : Int32).toNatClampNeg 0))), (a5, .inl (cy 1, 9, .inl gf5)), (a6, .inl (cy 1, 9, .inl gf6))] H := hP
    have hD : va_D A [(h0, .inr (3, [.int kd, .int tp, .int bk, .int lk, .int bs, .int ow, hv, .int mt, .ref a1, .ref a2, .ref a3, .ref a4, .ref a5, .ref a6, .int (nI (tr + 1))])), (a3, .inl (cy 1, 9, .inl f4)), (a4, .inl (cy 1, 9, .inl (upd gf4 ((nI (tr + 1)) : Int32).toNatClampNeg 0))), (a5, .inl (cy 1, 9, .inl gf5)), (a6, .inl (cy 1, 9, .inl gf6))] := hD
    generalize hff5 : (upd gf4 ((nI (tr + 1)) : Int32).toNatClampNeg 0) = f5 at hP hD
    refine lv_aload_n hx hb dX2_openTry_39 rfl (lv_at hl 0 rfl) ?_
    refine va_get (D := D) (ci := 3) (v := .ref a5) (C := RX2) (T := TX2) (N := 15) hx hb hT i_TX2 hown hK hP 0 rfl rfl 12 (by decide) (hT _ t_434) (fun _ h9 => h9) rfl dX2_openTry_40 ?_
    refine lv_aload_n hx hb dX2_openTry_43 rfl (lv_at hl 0 rfl) ?_
    refine va_get (D := D) (ci := 3) (v := .int (nI (tr + 1))) (C := RX2) (T := TX2) (N := 15) hx hb hT i_TX2 hown hK hP 0 rfl rfl 14 (by decide) (hT _ t_436) (fun _ h9 => h9) rfl dX2_openTry_44 ?_
    refine lv_iconst (v := 0) hx hb dX2_openTry_47 (by decide) ?_
    refine va_iast hx hb hK hP hD hS 3 1 rfl rfl (vp_in_nI (by omega) (by decide)) dX2_openTry_48 (fun H locs hP hD hS => ?_)
    have hP : va_P D vwCl [(h0, .inr (3, [.int kd, .int tp, .int bk, .int lk, .int bs, .int ow, hv, .int mt, .ref a1, .ref a2, .ref a3, .ref a4, .ref a5, .ref a6, .int (nI (tr + 1))])), (a3, .inl (cy 1, 9, .inl f4)), (a4, .inl (cy 1, 9, .inl f5)), (a5, .inl (cy 1, 9, .inl (upd gf5 ((nI (tr + 1)) : Int32).toNatClampNeg 0))), (a6, .inl (cy 1, 9, .inl gf6))] H := hP
    have hD : va_D A [(h0, .inr (3, [.int kd, .int tp, .int bk, .int lk, .int bs, .int ow, hv, .int mt, .ref a1, .ref a2, .ref a3, .ref a4, .ref a5, .ref a6, .int (nI (tr + 1))])), (a3, .inl (cy 1, 9, .inl f4)), (a4, .inl (cy 1, 9, .inl f5)), (a5, .inl (cy 1, 9, .inl (upd gf5 ((nI (tr + 1)) : Int32).toNatClampNeg 0))), (a6, .inl (cy 1, 9, .inl gf6))] := hD
    generalize hff6 : (upd gf5 ((nI (tr + 1)) : Int32).toNatClampNeg 0) = f6 at hP hD
    have hP9 := hP.sub (ws' := [(h0, .inr (3, [.int kd, .int tp, .int bk, .int lk, .int bs, .int ow, hv, .int mt, .ref a1, .ref a2, .ref a3, .ref a4, .ref a5, .ref a6, .int (nI (tr + 1))])), (a3, .inl (cy 1, 9, .inl f4)), (a4, .inl (cy 1, 9, .inl f5)), (a5, .inl (cy 1, 9, .inl f6)), (a6, .inl (cy 1, 9, .inl gf6))]) [0, 1, 2, 3, 4] rfl
    have hD9 := hD.sub (ws' := [(h0, .inr (3, [.int kd, .int tp, .int bk, .int lk, .int bs, .int ow, hv, .int mt, .ref a1, .ref a2, .ref a3, .ref a4, .ref a5, .ref a6, .int (nI (tr + 1))])), (a3, .inl (cy 1, 9, .inl f4)), (a4, .inl (cy 1, 9, .inl f5)), (a5, .inl (cy 1, 9, .inl f6)), (a6, .inl (cy 1, 9, .inl gf6))]) [0, 1, 2, 3, 4] (by decide) rfl
    refine W.widen (k := 0) (n := 0) (Nat.le_of_ble_eq_true rfl) (Nat.le_of_ble_eq_true rfl) ?_
    exact W.vret hx hb hr (fun t ht hW => ⟨⟨((tr + 1), f4, f5, f6, gf6), rfl, (show tr + 1 ≤ 8 from hlt), by rw [ht]; exact hP9, hD9⟩, hS.F ht⟩) hS.2.2 dX2_openTry_49
